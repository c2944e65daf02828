section MD1
/-- the largest r with r * r ≤ 9 * len -/
def md_tl : Nat → Int → Int
  | 0, _ => 0
  | k + 1, len => if ((k : Int) + 1) * ((k : Int) + 1) ≤ 9 * len then (k : Int) + 1 else md_tl k len
def md_tol (len : Int) : Int := md_tl 84 len
theorem md_tl_eq {len r : Int} (h0 : 0 ≤ r) (h1 : r * r ≤ 9 * len) (h2 : 9 * len < (r + 1) * (r + 1)) : ∀ k : Nat, r ≤ (k : Int) → md_tl k len = r
  | 0, h => by show (0 : Int) = r; omega
  | k + 1, h => by
    unfold md_tl
    by_cases hk : r = (k : Int) + 1
    · rw [if_pos (by rw [← hk]; exact h1)]; exact hk.symm
    · have hle : r + 1 ≤ (k : Int) + 1 := by omega
      have hm : (r + 1) * (r + 1) ≤ ((k : Int) + 1) * ((k : Int) + 1) := Int.mul_le_mul hle hle (by omega) (by omega)
      rw [if_neg (by omega)]
      exact md_tl_eq h0 h1 h2 k (by omega)
/-- the model's places, from the object's own on -/
def md_t (k : Nat) : Option ((FieldType × Nat) ⊕ Nat) := match k with
  | 2 => some (.inl (.int, 240))
  | 4 => some (.inl (.int, 240))
  | 6 => some (.inl (.int, 1920))
  | 8 => some (.inl (.int, 240))
  | 10 => some (.inl (.char, 60))
  | 12 => some (.inl (.char, 60))
  | 14 => some (.inl (.int, 16))
  | 16 => some (.inl (.int, 10))
  | 18 => some (.inl (.int, 10))
  | 20 => some (.inl (.boolean, 10))
  | 22 => some (.inl (.int, 16))
  | 24 => some (.inl (.int, 16))
  | 26 => some (.inl (.int, 10))
  | 28 => some (.inl (.int, 300))
  | _ => none
def md_r (i : Int) : Option Nat := match i with
  | 0 => some 2
  | 1 => some 4
  | 2 => some 6
  | 4 => some 8
  | 6 => some 10
  | 10 => some 12
  | 13 => some 14
  | 14 => some 16
  | 15 => some 18
  | 16 => some 20
  | 17 => some 22
  | 18 => some 24
  | 19 => some 26
  | 22 => some 28
  | _ => none
def md_at (t : jk_T) (ρ : jk_P) (m : Nat) : Prop := t m = some (.inr 13) ∧ (∀ k g, md_t k = some g → t (m + k) = some g) ∧ ∀ i k, md_r i = some k → ρ m i = some (m + k)

def md_abs (v : Int) : Int := if v < 0 then -v else v
theorem c_X13_size {G : jk_G} {n : Nat} {t : jk_T} {σ : jk_I} {ρ : jk_P} {v : Int} (hv : -2000000000 ≤ v ∧ v ≤ 2000000000) : jk_K G yX13_size mX13_size 0 0 [jI v] n t σ ρ (jk_q (some (jI (md_abs v))) n t σ ρ) jk_no := by
  refine jk_entryB (ls := [some (jI v)]) jm_X13_size.1 rfl rfl rfl ?_
  refine jk_iload_n (q := 1) dX13_size_0 rfl rfl ?_
  refine jk_if_ge (q := 9) (q2 := 4) dX13_size_1 rfl rfl (by first | decide | omega | grind) (fun h1 => ?_) (fun h1 => ?_)
  · refine jk_iload_n (q := 10) dX13_size_9 rfl rfl ?_
    exact jk_iret rfl dX13_size_10 (by first | (refine jk_qI ?_; unfold md_abs; grind))
  · refine jk_iload_n (q := 5) dX13_size_4 rfl rfl ?_
    refine jk_ineg (q := 6) dX13_size_5 rfl ?_
    refine jk_goto (q := 10) dX13_size_6 rfl ?_
    exact jk_iret rfl dX13_size_10 (by first | (refine jk_qI ?_; unfold md_abs; grind))
def md_in (v low high : Int) : Bool := decide (low ≤ v ∧ v ≤ high)
theorem c_X13_in {G : jk_G} {n : Nat} {t : jk_T} {σ : jk_I} {ρ : jk_P} {v lo hi : Int} (hv : jk_in v) (hl : jk_in lo) (hh : jk_in hi) : jk_K G yX13_in mX13_in 0 0 [jI v, jI lo, jI hi] n t σ ρ (jk_q (some (jI (jB (md_in v lo hi)))) n t σ ρ) jk_no := by
  refine jk_entryB (ls := [some (jI v), some (jI lo), some (jI hi)]) jm_X13_in.1 rfl rfl rfl ?_
  refine jk_iload_n (q := 1) dX13_in_0 rfl rfl ?_
  refine jk_iload_n (q := 2) dX13_in_1 rfl rfl ?_
  refine jk_icmp_lt (q := 14) (q2 := 5) dX13_in_2 rfl rfl (by first | decide | omega | grind) (by first | decide | omega | grind) (fun h1 => ?_) (fun h1 => ?_)
  · refine jk_iconst (q := 15) dX13_in_14 rfl ?_
    exact jk_zret rfl (by first | decide | omega | grind) dX13_in_15 (by first | (refine jk_qT ?_; unfold md_in; grind) | (refine jk_qF ?_; unfold md_in; grind))
  · refine jk_iload_n (q := 6) dX13_in_5 rfl rfl ?_
    refine jk_iload_n (q := 7) dX13_in_6 rfl rfl ?_
    refine jk_icmp_gt (q := 14) (q2 := 10) dX13_in_7 rfl rfl (by first | decide | omega | grind) (by first | decide | omega | grind) (fun h2 => ?_) (fun h2 => ?_)
    · refine jk_iconst (q := 15) dX13_in_14 rfl ?_
      exact jk_zret rfl (by first | decide | omega | grind) dX13_in_15 (by first | (refine jk_qT ?_; unfold md_in; grind) | (refine jk_qF ?_; unfold md_in; grind))
    · refine jk_iconst (q := 11) dX13_in_10 rfl ?_
      refine jk_goto (q := 15) dX13_in_11 rfl ?_
      exact jk_zret rfl (by first | decide | omega | grind) dX13_in_15 (by first | (refine jk_qT ?_; unfold md_in; grind) | (refine jk_qF ?_; unfold md_in; grind))
theorem l_X13_allowed {G : jk_G} {n : Nat} {t : jk_T} {σ : jk_I} {ρ : jk_P} {rc rs : Nat} {len : Int} (hlen : 0 ≤ len ∧ len ≤ 800) : ∀ (d : Nat) (k : Int), 0 ≤ k → k * k ≤ 9 * len → k + d = 85 → jk_J G mX13_allowed 2 [some (jI len), some (jI k)] [] n t σ ρ rc rs (jk_q (some (jI (md_tol len))) n t σ ρ) jk_no := by
  intro d
  induction d with
  | zero =>
    intro k hk hk2 hd
    exfalso
    have : k = 85 := by omega
    subst this
    omega
  | succ d ih =>
    intro k hk hk2 hd
    refine jk_iload_n (q := 3) dX13_allowed_2 rfl rfl ?_
    refine jk_iconst (q := 4) dX13_allowed_3 rfl ?_
    refine jk_iadd (q := 5) dX13_allowed_4 rfl ?_
    refine jk_iload_n (q := 6) dX13_allowed_5 rfl rfl ?_
    refine jk_iconst (q := 7) dX13_allowed_6 rfl ?_
    refine jk_iadd (q := 8) dX13_allowed_7 rfl ?_
    refine jk_imul (q := 9) dX13_allowed_8 rfl ?_
    refine jk_bipush (q := 11) (y := 9) dX13_allowed_9 rfl (by decide) ?_
    refine jk_iload_n (q := 12) dX13_allowed_11 rfl rfl ?_
    refine jk_imul (q := 13) dX13_allowed_12 rfl ?_
    have hm : (k + 1) * (k + 1) ≤ 85 * 85 := Int.mul_le_mul (by omega) (by omega) (by omega) (by omega)
    have hm0 : 0 ≤ (k + 1) * (k + 1) := Int.mul_nonneg (by omega) (by omega)
    refine jk_icmp_gt (q := 22) (q2 := 16) dX13_allowed_13 rfl rfl (by first | decide | omega | grind) (by first | decide | omega | grind) (fun h1 => ?_) (fun h1 => ?_)
    · refine jk_iload_n (q := 23) dX13_allowed_22 rfl rfl ?_
      exact jk_iret rfl dX13_allowed_23 (by refine jk_qI ?_; exact (md_tl_eq (by omega) hk2 (by omega) 84 (by omega)).symm)
    · refine jk_iinc1 (q := 19) dX13_allowed_16 rfl rfl rfl ?_
      refine jk_goto (q := 2) dX13_allowed_19 rfl ?_
      exact ih (k + 1) (by omega) (by omega) (by omega)
theorem c_X13_allowed {G : jk_G} {n : Nat} {t : jk_T} {σ : jk_I} {ρ : jk_P} {len : Int} (hlen : 0 ≤ len ∧ len ≤ 800) : jk_K G yX13_allowed mX13_allowed 0 0 [jI len] n t σ ρ (jk_q (some (jI (md_tol len))) n t σ ρ) jk_no := by
  refine jk_entryB (ls := [some (jI len), none]) jm_X13_allowed.1 rfl rfl rfl ?_
  refine jk_iconst (q := 1) dX13_allowed_0 rfl ?_
  refine jk_istore1 (q := 2) dX13_allowed_1 rfl rfl rfl ?_
  exact l_X13_allowed hlen 85 0 (by decide) (by omega) (by decide)
def md_gap (g : Int → Int) (l : Int) : Int := g (72 + l) + g (104 + l)
theorem c_X13_gapOf {G : jk_G} {n : Nat} {t : jk_T} {σ : jk_I} {ρ : jk_P} {m : Nat} {g : Int → Int} {l : Int} (hm : md_at t ρ m) (hg : σ (m + 2) = g) (hl : 0 ≤ l ∧ l < 16) : jk_K G yX13_gapOf mX13_gapOf 0 0 [.ref m, jI l] n t σ ρ (jk_q (some (jI (md_gap g l))) n t σ ρ) jk_no := by
  refine jk_entryB (ls := [some (.ref m), some (jI l)]) jm_X13_gapOf.1 rfl rfl rfl ?_
  refine jk_aload_n (q := 1) dX13_gapOf_0 rfl rfl ?_
  refine jk_getA (q := 4) (k := 13) 0 0 rfl (by first | exact hm.1 | exact hm.2.1 _ _ rfl | assumption) (by first | exact hm.2.2 _ _ rfl | assumption) rfl rfl jw_1848 dX13_gapOf_1 rfl ?_
  refine jk_bipush (q := 6) (y := 72) dX13_gapOf_4 rfl (by decide) ?_
  refine jk_iload_n (q := 7) dX13_gapOf_6 rfl rfl ?_
  refine jk_iadd (q := 8) dX13_gapOf_7 rfl ?_
  refine jk_ialdR (q := 9) (by first | exact hm.1 | exact hm.2.1 _ _ rfl | assumption) (by first | exact jk_row_same _ _ _ | exact hg | (rewrite [jk_row_ne _ _ (by omega)]; first | exact jk_row_same _ _ _ | exact hg | (rewrite [jk_row_ne _ _ (by omega)]; first | exact jk_row_same _ _ _ | exact hg | (rewrite [jk_row_ne _ _ (by omega)]; first | exact jk_row_same _ _ _ | exact hg | (rewrite [jk_row_ne _ _ (by omega)]; first | exact hg | rfl))))) (by first | decide | omega | grind) dX13_gapOf_8 rfl ?_
  refine jk_aload_n (q := 10) dX13_gapOf_9 rfl rfl ?_
  refine jk_getA (q := 13) (k := 13) 0 0 rfl (by first | exact hm.1 | exact hm.2.1 _ _ rfl | assumption) (by first | exact hm.2.2 _ _ rfl | assumption) rfl rfl jw_1848 dX13_gapOf_10 rfl ?_
  refine jk_bipush (q := 15) (y := 104) dX13_gapOf_13 rfl (by decide) ?_
  refine jk_iload_n (q := 16) dX13_gapOf_15 rfl rfl ?_
  refine jk_iadd (q := 17) dX13_gapOf_16 rfl ?_
  refine jk_ialdR (q := 18) (by first | exact hm.1 | exact hm.2.1 _ _ rfl | assumption) (by first | exact jk_row_same _ _ _ | exact hg | (rewrite [jk_row_ne _ _ (by omega)]; first | exact jk_row_same _ _ _ | exact hg | (rewrite [jk_row_ne _ _ (by omega)]; first | exact jk_row_same _ _ _ | exact hg | (rewrite [jk_row_ne _ _ (by omega)]; first | exact jk_row_same _ _ _ | exact hg | (rewrite [jk_row_ne _ _ (by omega)]; first | exact hg | rfl))))) (by first | decide | omega | grind) dX13_gapOf_17 rfl ?_
  refine jk_iadd (q := 19) dX13_gapOf_18 rfl ?_
  exact jk_iret rfl dX13_gapOf_19 (by exact jk_qr)
def md_good (g : Int → Int) (l : Int) : Bool := decide (g (120 + l) = 0) && (decide (g (88 + l) = 0) || decide (md_abs (md_gap g l) ≤ md_tol (g (56 + l))))
/-- what holds of the model's state at every call; B bounds the corrections -/
def md_lnf (B : Int) (g : Int → Int) (l : Int) : Prop := (0 ≤ g (24 + l) ∧ g (24 + l) < 10) ∧ (0 ≤ g (40 + l) ∧ g (40 + l) < 10) ∧ (0 ≤ g (56 + l) ∧ g (56 + l) ≤ 50) ∧ (-9999 ≤ g (72 + l) ∧ g (72 + l) ≤ 9999) ∧ (g (88 + l) = 0 ∨ g (88 + l) = 1) ∧ (-9999 ≤ g (104 + l) ∧ g (104 + l) ≤ 9999) ∧ (g (120 + l) = 0 ∨ g (120 + l) = 1) ∧ (-B ≤ g (136 + l) ∧ g (136 + l) ≤ B)
def md_ptf (g : Int → Int) (p : Int) : Prop := (g (4 + p) = 0 ∨ g (4 + p) = 1) ∧ -99999 ≤ g (14 + p) ∧ g (14 + p) ≤ 99999
def md_inv (B : Int) (g : Int → Int) : Prop := (0 ≤ g 0 ∧ g 0 ≤ 10) ∧ (0 ≤ g 1 ∧ g 1 ≤ 16) ∧ (0 ≤ g 2 ∧ g 2 ≤ 4) ∧ (-99999 ≤ g 3 ∧ g 3 ≤ 99999) ∧ (∀ p, 0 ≤ p ∧ p < 10 → md_ptf g p) ∧ (∀ l, 0 ≤ l ∧ l < 16 → md_lnf B g l) ∧ (0 ≤ B ∧ B ≤ 1100000) ∧ (∀ q, 0 ≤ q ∧ q < 4 → (0 ≤ g (156 + q) ∧ g (156 + q) ≤ 10) ∧ 0 ≤ g (152 + q) ∧ g (152 + q) < 10) ∧ ∀ i, 160 ≤ i ∧ i < 240 → -999 ≤ g i ∧ g i ≤ 999
theorem md_inv_ln {B : Int} {g : Int → Int} (h : md_inv B g) {l : Int} (hl : 0 ≤ l ∧ l < 16) : md_lnf B g l := h.2.2.2.2.2.1 l hl
theorem md_inv_pt {B : Int} {g : Int → Int} (h : md_inv B g) {p : Int} (hp : 0 ≤ p ∧ p < 10) : md_ptf g p := h.2.2.2.2.1 p hp
theorem md_tl_bd : ∀ (k : Nat) (len : Int), 0 ≤ md_tl k len ∧ md_tl k len ≤ (k : Int)
  | 0, _ => ⟨Int.le_refl _, Int.le_refl _⟩
  | k + 1, len => by
    have := md_tl_bd k len
    unfold md_tl
    split <;> omega
theorem md_tol_bd (len : Int) : 0 ≤ md_tol len ∧ md_tol len ≤ 84 := md_tl_bd 84 len

theorem c_X13_isGood {G : jk_G} {n : Nat} {t : jk_T} {σ : jk_I} {ρ : jk_P} {m : Nat} {g : Int → Int} {B l : Int} (hm : md_at t ρ m) (hg : σ (m + 2) = g) (hi : md_inv B g) (hl : 0 ≤ l ∧ l < 16) : jk_K G yX13_isGood mX13_isGood 0 0 [.ref m, jI l] n t σ ρ (jk_q (some (jI (jB (md_good g l)))) n t σ ρ) jk_no := by
  refine jk_entryB (ls := [some (.ref m), some (jI l), none]) jm_X13_isGood.1 rfl rfl rfl ?_
  obtain ⟨l1, l2, l3, l4, l5, l6, l7, l8⟩ := md_inv_ln hi hl
  have hB := hi.2.2.2.2.2.2
  refine jk_aload_n (q := 1) dX13_isGood_0 rfl rfl ?_
  refine jk_getA (q := 4) (k := 13) 0 0 rfl (by first | exact hm.1 | exact hm.2.1 _ _ rfl | assumption) (by first | exact hm.2.2 _ _ rfl | assumption) rfl rfl jw_1848 dX13_isGood_1 rfl ?_
  refine jk_bipush (q := 6) (y := 88) dX13_isGood_4 rfl (by decide) ?_
  refine jk_iload_n (q := 7) dX13_isGood_6 rfl rfl ?_
  refine jk_iadd (q := 8) dX13_isGood_7 rfl ?_
  refine jk_ialdR (q := 9) (by first | exact hm.1 | exact hm.2.1 _ _ rfl | assumption) (by first | exact jk_row_same _ _ _ | exact hg | (rewrite [jk_row_ne _ _ (by omega)]; first | exact jk_row_same _ _ _ | exact hg | (rewrite [jk_row_ne _ _ (by omega)]; first | exact jk_row_same _ _ _ | exact hg | (rewrite [jk_row_ne _ _ (by omega)]; first | exact jk_row_same _ _ _ | exact hg | (rewrite [jk_row_ne _ _ (by omega)]; first | exact hg | rfl))))) (by first | decide | omega | exact jB_01 _) dX13_isGood_8 rfl ?_
  refine jk_if_eq (q := 35) (q2 := 12) dX13_isGood_9 rfl rfl (by first | decide | omega | exact jB_01 _) (fun h1 => ?_) (fun h1 => ?_)
  · refine jk_iconst (q := 36) dX13_isGood_35 rfl ?_
    refine jk_goto (q := 40) dX13_isGood_36 rfl ?_
    refine jk_istore2 (q := 41) dX13_isGood_40 rfl rfl rfl ?_
    refine jk_aload_n (q := 42) dX13_isGood_41 rfl rfl ?_
    refine jk_getA (q := 45) (k := 13) 0 0 rfl (by first | exact hm.1 | exact hm.2.1 _ _ rfl | assumption) (by first | exact hm.2.2 _ _ rfl | assumption) rfl rfl jw_1848 dX13_isGood_42 rfl ?_
    refine jk_bipush (q := 47) (y := 120) dX13_isGood_45 rfl (by decide) ?_
    refine jk_iload_n (q := 48) dX13_isGood_47 rfl rfl ?_
    refine jk_iadd (q := 49) dX13_isGood_48 rfl ?_
    refine jk_ialdR (q := 50) (by first | exact hm.1 | exact hm.2.1 _ _ rfl | assumption) (by first | exact jk_row_same _ _ _ | exact hg | (rewrite [jk_row_ne _ _ (by omega)]; first | exact jk_row_same _ _ _ | exact hg | (rewrite [jk_row_ne _ _ (by omega)]; first | exact jk_row_same _ _ _ | exact hg | (rewrite [jk_row_ne _ _ (by omega)]; first | exact jk_row_same _ _ _ | exact hg | (rewrite [jk_row_ne _ _ (by omega)]; first | exact hg | rfl))))) (by first | decide | omega | exact jB_01 _) dX13_isGood_49 rfl ?_
    refine jk_if_ne (q := 61) (q2 := 53) dX13_isGood_50 rfl rfl (by first | decide | omega | exact jB_01 _) (fun h2 => ?_) (fun h2 => ?_)
    · refine jk_iconst (q := 62) dX13_isGood_61 rfl ?_
      exact jk_zret rfl (by first | decide | omega | exact jB_01 _) dX13_isGood_62 (by first | (refine jk_qT ?_; unfold md_good; grind) | (refine jk_qF ?_; unfold md_good; grind))
    · refine jk_iload_n (q := 54) dX13_isGood_53 rfl rfl ?_
      refine jk_ifN_eq (q := 57) (by decide) (by decide) dX13_isGood_54 rfl rfl ?_
      refine jk_iconst (q := 58) dX13_isGood_57 rfl ?_
      refine jk_goto (q := 62) dX13_isGood_58 rfl ?_
      exact jk_zret rfl (by first | decide | omega | exact jB_01 _) dX13_isGood_62 (by first | (refine jk_qT ?_; unfold md_good; grind) | (refine jk_qF ?_; unfold md_good; grind))
  · refine jk_aload_n (q := 13) dX13_isGood_12 rfl rfl ?_
    refine jk_iload_n (q := 14) dX13_isGood_13 rfl rfl ?_
    refine jk_cV1p (q := 17) (c_X13_gapOf hm hg hl) jm_X13_gapOf jw_1994 rfl (by first | exact hm.1 | exact hm.2.1 _ _ rfl | assumption) rfl rfl rfl dX13_isGood_14 rfl ?_
    refine jk_cS1p (q := 20) (c_X13_size (by unfold md_gap; omega)) jm_X13_size jw_2014 rfl rfl rfl dX13_isGood_17 rfl ?_
    refine jk_aload_n (q := 21) dX13_isGood_20 rfl rfl ?_
    refine jk_getA (q := 24) (k := 13) 0 0 rfl (by first | exact hm.1 | exact hm.2.1 _ _ rfl | assumption) (by first | exact hm.2.2 _ _ rfl | assumption) rfl rfl jw_1848 dX13_isGood_21 rfl ?_
    refine jk_bipush (q := 26) (y := 56) dX13_isGood_24 rfl (by decide) ?_
    refine jk_iload_n (q := 27) dX13_isGood_26 rfl rfl ?_
    refine jk_iadd (q := 28) dX13_isGood_27 rfl ?_
    refine jk_ialdR (q := 29) (by first | exact hm.1 | exact hm.2.1 _ _ rfl | assumption) (by first | exact jk_row_same _ _ _ | exact hg | (rewrite [jk_row_ne _ _ (by omega)]; first | exact jk_row_same _ _ _ | exact hg | (rewrite [jk_row_ne _ _ (by omega)]; first | exact jk_row_same _ _ _ | exact hg | (rewrite [jk_row_ne _ _ (by omega)]; first | exact jk_row_same _ _ _ | exact hg | (rewrite [jk_row_ne _ _ (by omega)]; first | exact hg | rfl))))) (by first | decide | omega | exact jB_01 _) dX13_isGood_28 rfl ?_
    refine jk_cS1p (q := 32) (c_X13_allowed (by omega)) jm_X13_allowed jw_2017 rfl rfl rfl dX13_isGood_29 rfl ?_
    have ha : -20000 ≤ md_abs (md_gap g l) ∧ md_abs (md_gap g l) ≤ 20000 := by unfold md_abs md_gap; split <;> omega
    have hb := md_tol_bd (g (56 + l))
    refine jk_icmp_gt (q := 39) (q2 := 35) dX13_isGood_32 rfl rfl (by first | decide | omega | exact jB_01 _) (by first | decide | omega | exact jB_01 _) (fun h3 => ?_) (fun h3 => ?_)
    · refine jk_iconst (q := 40) dX13_isGood_39 rfl ?_
      refine jk_istore2 (q := 41) dX13_isGood_40 rfl rfl rfl ?_
      refine jk_aload_n (q := 42) dX13_isGood_41 rfl rfl ?_
      refine jk_getA (q := 45) (k := 13) 0 0 rfl (by first | exact hm.1 | exact hm.2.1 _ _ rfl | assumption) (by first | exact hm.2.2 _ _ rfl | assumption) rfl rfl jw_1848 dX13_isGood_42 rfl ?_
      refine jk_bipush (q := 47) (y := 120) dX13_isGood_45 rfl (by decide) ?_
      refine jk_iload_n (q := 48) dX13_isGood_47 rfl rfl ?_
      refine jk_iadd (q := 49) dX13_isGood_48 rfl ?_
      refine jk_ialdR (q := 50) (by first | exact hm.1 | exact hm.2.1 _ _ rfl | assumption) (by first | exact jk_row_same _ _ _ | exact hg | (rewrite [jk_row_ne _ _ (by omega)]; first | exact jk_row_same _ _ _ | exact hg | (rewrite [jk_row_ne _ _ (by omega)]; first | exact jk_row_same _ _ _ | exact hg | (rewrite [jk_row_ne _ _ (by omega)]; first | exact jk_row_same _ _ _ | exact hg | (rewrite [jk_row_ne _ _ (by omega)]; first | exact hg | rfl))))) (by first | decide | omega | exact jB_01 _) dX13_isGood_49 rfl ?_
      refine jk_if_ne (q := 61) (q2 := 53) dX13_isGood_50 rfl rfl (by first | decide | omega | exact jB_01 _) (fun h4 => ?_) (fun h4 => ?_)
      · refine jk_iconst (q := 62) dX13_isGood_61 rfl ?_
        exact jk_zret rfl (by first | decide | omega | exact jB_01 _) dX13_isGood_62 (by first | (refine jk_qT ?_; unfold md_good; grind) | (refine jk_qF ?_; unfold md_good; grind))
      · refine jk_iload_n (q := 54) dX13_isGood_53 rfl rfl ?_
        refine jk_ifT_eq (q := 61) (by decide) (by decide) dX13_isGood_54 rfl ?_
        refine jk_iconst (q := 62) dX13_isGood_61 rfl ?_
        exact jk_zret rfl (by first | decide | omega | exact jB_01 _) dX13_isGood_62 (by first | (refine jk_qT ?_; unfold md_good; grind) | (refine jk_qF ?_; unfold md_good; grind))
    · refine jk_iconst (q := 36) dX13_isGood_35 rfl ?_
      refine jk_goto (q := 40) dX13_isGood_36 rfl ?_
      refine jk_istore2 (q := 41) dX13_isGood_40 rfl rfl rfl ?_
      refine jk_aload_n (q := 42) dX13_isGood_41 rfl rfl ?_
      refine jk_getA (q := 45) (k := 13) 0 0 rfl (by first | exact hm.1 | exact hm.2.1 _ _ rfl | assumption) (by first | exact hm.2.2 _ _ rfl | assumption) rfl rfl jw_1848 dX13_isGood_42 rfl ?_
      refine jk_bipush (q := 47) (y := 120) dX13_isGood_45 rfl (by decide) ?_
      refine jk_iload_n (q := 48) dX13_isGood_47 rfl rfl ?_
      refine jk_iadd (q := 49) dX13_isGood_48 rfl ?_
      refine jk_ialdR (q := 50) (by first | exact hm.1 | exact hm.2.1 _ _ rfl | assumption) (by first | exact jk_row_same _ _ _ | exact hg | (rewrite [jk_row_ne _ _ (by omega)]; first | exact jk_row_same _ _ _ | exact hg | (rewrite [jk_row_ne _ _ (by omega)]; first | exact jk_row_same _ _ _ | exact hg | (rewrite [jk_row_ne _ _ (by omega)]; first | exact jk_row_same _ _ _ | exact hg | (rewrite [jk_row_ne _ _ (by omega)]; first | exact hg | rfl))))) (by first | decide | omega | exact jB_01 _) dX13_isGood_49 rfl ?_
      refine jk_if_ne (q := 61) (q2 := 53) dX13_isGood_50 rfl rfl (by first | decide | omega | exact jB_01 _) (fun h5 => ?_) (fun h5 => ?_)
      · refine jk_iconst (q := 62) dX13_isGood_61 rfl ?_
        exact jk_zret rfl (by first | decide | omega | exact jB_01 _) dX13_isGood_62 (by first | (refine jk_qT ?_; unfold md_good; grind) | (refine jk_qF ?_; unfold md_good; grind))
      · refine jk_iload_n (q := 54) dX13_isGood_53 rfl rfl ?_
        refine jk_ifN_eq (q := 57) (by decide) (by decide) dX13_isGood_54 rfl rfl ?_
        refine jk_iconst (q := 58) dX13_isGood_57 rfl ?_
        refine jk_goto (q := 62) dX13_isGood_58 rfl ?_
        exact jk_zret rfl (by first | decide | omega | exact jB_01 _) dX13_isGood_62 (by first | (refine jk_qT ?_; unfold md_good; grind) | (refine jk_qF ?_; unfold md_good; grind))
end MD1
