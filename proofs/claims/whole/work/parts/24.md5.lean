section MD5
/-- the first number below k with P, -1 without one -/
def jk_fnd (P : Int → Bool) : Nat → Int
  | 0 => -1
  | k + 1 => if jk_fnd P k = -1 then (if P (k : Int) = true then (k : Int) else -1) else jk_fnd P k
theorem jk_fnd_bd (P : Int → Bool) : ∀ k : Nat, -1 ≤ jk_fnd P k ∧ jk_fnd P k < (k : Int) ∧ (0 ≤ jk_fnd P k → P (jk_fnd P k) = true)
  | 0 => ⟨Int.le_refl _, by show (-1 : Int) < 0; decide, fun h => absurd h (by show ¬ (0 : Int) ≤ -1; decide)⟩
  | k + 1 => by
    have := jk_fnd_bd P k
    unfold jk_fnd
    split
    · split
      · exact ⟨by omega, by omega, fun _ => by assumption⟩
      · exact ⟨by omega, by omega, fun h => absurd h (by decide)⟩
    · exact ⟨this.1, by omega, this.2.2⟩
theorem jk_fnd_hit {P : Int → Bool} {k : Nat} (h0 : jk_fnd P k = -1) (h1 : P (k : Int) = true) : ∀ N : Nat, k < N → jk_fnd P N = (k : Int)
  | 0, h => absurd h (Nat.not_lt_zero _)
  | N + 1, h => by
    unfold jk_fnd
    by_cases hk : k = N
    · subst hk; rw [if_pos h0, if_pos h1]
    · rw [jk_fnd_hit h0 h1 N (by omega), if_neg (by omega)]
theorem jk_fnd_S {P : Int → Bool} {k : Nat} (h0 : jk_fnd P k = -1) (h1 : P (k : Int) = false) : jk_fnd P (k + 1) = -1 := by
  unfold jk_fnd; rw [if_pos h0, if_neg (by rw [h1]; decide)]
def md_datP (g r : Int → Int) (p : Int) : Int → Bool := fun o => decide (r o = r p ∧ g (4 + o) = 1)
def md_dat (g r : Int → Int) (p : Int) : Int := jk_fnd (md_datP g r p) (g 0).toNat
def md_byd (g r V : Int → Int) (p : Int) : Int := g (14 + md_dat g r p) + V p - V (md_dat g r p)
def md_hi (g r : Int → Int) (p : Int) : Bool := decide (md_dat g r p ≠ -1)
def md_ht (g r V : Int → Int) (p : Int) : Int := if g (4 + p) = 1 then g (14 + p) else md_byd g r V p
def md_clo (g T : Int → Int) (l : Int) : Bool := md_good g l && decide (T l = 0)
theorem c_X13_closes {G : jk_G} {n : Nat} {t : jk_T} {σ : jk_I} {ρ : jk_P} {m : Nat} {g : Int → Int} {B : Int} {T : Int → Int} {l : Int} (hm : md_at t ρ m) (hg : σ (m + 2) = g) (hi : md_inv B g) (hk : σ (m + 14) = T) (hTb : ∀ l, 0 ≤ l ∧ l < 16 → T l = 0 ∨ T l = 1) (hl : 0 ≤ l ∧ l < 16) : jk_K G yX13_closes mX13_closes 0 0 [.ref m, jI l] n t σ ρ (jk_q (some (jI (jB (md_clo g T l)))) n t σ ρ) jk_no := by
  refine jk_entryB (ls := [some (.ref m), some (jI l)]) jm_X13_closes.1 rfl rfl rfl ?_
  have ht := hTb l hl
  refine jk_aload_n (q := 1) dX13_closes_0 rfl rfl ?_
  refine jk_iload_n (q := 2) dX13_closes_1 rfl rfl ?_
  refine jk_cV1p (q := 5) (c_X13_isGood hm hg hi hl) jm_X13_isGood jw_2010 rfl (by first | exact hm.1 | exact hm.2.1 _ _ rfl | assumption) rfl rfl rfl dX13_closes_2 rfl ?_
  refine jk_ifB_eq (q := 21) (q2 := 8) dX13_closes_5 rfl rfl (fun h1 => ?_) (fun h1 => ?_)
  · refine jk_iconst (q := 22) dX13_closes_21 rfl ?_
    exact jk_zret rfl (by first | decide | omega | exact jB_01 _) dX13_closes_22 (by first | (refine jk_qT ?_; simp [md_clo, *]) | (refine jk_qF ?_; simp [md_clo, *]))
  · refine jk_aload_n (q := 9) dX13_closes_8 rfl rfl ?_
    refine jk_getA (q := 12) (k := 13) 13 13 rfl (by first | exact hm.1 | exact hm.2.1 _ _ rfl | assumption) (by first | exact hm.2.2 _ _ rfl | assumption) rfl rfl jw_1861 dX13_closes_9 rfl ?_
    refine jk_iload_n (q := 13) dX13_closes_12 rfl rfl ?_
    refine jk_ialdR (q := 14) (by first | exact hm.1 | exact hm.2.1 _ _ rfl | assumption) (by first | exact jk_row_same _ _ _ | exact hg | exact hk | (rewrite [jk_row_ne _ _ (by omega)]; first | exact jk_row_same _ _ _ | exact hg | exact hk | (rewrite [jk_row_ne _ _ (by omega)]; first | exact jk_row_same _ _ _ | exact hg | exact hk | (rewrite [jk_row_ne _ _ (by omega)]; first | exact jk_row_same _ _ _ | exact hg | exact hk | (rewrite [jk_row_ne _ _ (by omega)]; first | exact hg | exact hk | rfl))))) (by first | decide | omega | exact jB_01 _) dX13_closes_13 rfl ?_
    refine jk_if_ne (q := 21) (q2 := 17) dX13_closes_14 rfl rfl (by first | decide | omega | exact jB_01 _) (fun h2 => ?_) (fun h2 => ?_)
    · refine jk_iconst (q := 22) dX13_closes_21 rfl ?_
      exact jk_zret rfl (by first | decide | omega | exact jB_01 _) dX13_closes_22 (by first | (refine jk_qT ?_; simp [md_clo, *]) | (refine jk_qF ?_; simp [md_clo, *]))
    · refine jk_iconst (q := 18) dX13_closes_17 rfl ?_
      refine jk_goto (q := 22) dX13_closes_18 rfl ?_
      exact jk_zret rfl (by first | decide | omega | exact jB_01 _) dX13_closes_22 (by first | (refine jk_qT ?_; simp [md_clo, *]) | (refine jk_qF ?_; simp [md_clo, *]))
theorem c_X13_datumOf {G : jk_G} {n : Nat} {t : jk_T} {σ : jk_I} {ρ : jk_P} {m : Nat} {g : Int → Int} {B : Int} {r : Int → Int} {p : Int} (hm : md_at t ρ m) (hg : σ (m + 2) = g) (hi : md_inv B g) (hr : σ (m + 16) = r) (hrb : ∀ p, 0 ≤ p ∧ p < 10 → 0 ≤ r p ∧ r p < 10) (hp : 0 ≤ p ∧ p < 10) : jk_K G yX13_datumOf mX13_datumOf 0 0 [.ref m, jI p] n t σ ρ (jk_q (some (jI (md_dat g r p))) n t σ ρ) jk_no := by
  refine jk_entryB (ls := [some (.ref m), some (jI p), none]) jm_X13_datumOf.1 rfl rfl rfl ?_
  obtain ⟨i0, i1, -⟩ := id hi
  have hrp := hrb p hp
  refine jk_iconst (q := 1) dX13_datumOf_0 rfl ?_
  refine jk_istore2 (q := 2) dX13_datumOf_1 rfl rfl rfl ?_
  have L2 : ∀ k2 : Nat, k2 ≤ (g 0).toNat → (hf : jk_fnd (md_datP g r p) k2 = -1) → jk_J G mX13_datumOf 2 [some (.ref m), some (jI p), some (jI (k2 : Int))] [] n t σ ρ 0 0 (jk_q (some (jI (md_dat g r p))) n t σ ρ) jk_no := by
    refine jk_loop _ (fun k2 hk2 ih2 => ?_)
    intro  hf
    refine jk_iload_n (q := 3) dX13_datumOf_2 rfl rfl ?_
    refine jk_aload_n (q := 4) dX13_datumOf_3 rfl rfl ?_
    refine jk_getA (q := 7) (k := 13) 0 0 rfl (by first | exact hm.1 | exact hm.2.1 _ _ rfl | assumption) (by first | exact hm.2.2 _ _ rfl | assumption) rfl rfl jw_1848 dX13_datumOf_4 rfl ?_
    refine jk_iconst (q := 8) dX13_datumOf_7 rfl ?_
    refine jk_ialdR (q := 9) (by first | exact hm.1 | exact hm.2.1 _ _ rfl | assumption) (by first | exact jk_row_same _ _ _ | exact hg | exact hr | (rewrite [jk_row_ne _ _ (by omega)]; first | exact jk_row_same _ _ _ | exact hg | exact hr | (rewrite [jk_row_ne _ _ (by omega)]; first | exact jk_row_same _ _ _ | exact hg | exact hr | (rewrite [jk_row_ne _ _ (by omega)]; first | exact jk_row_same _ _ _ | exact hg | exact hr | (rewrite [jk_row_ne _ _ (by omega)]; first | exact hg | exact hr | rfl))))) (by first | decide | omega | exact jB_01 _) dX13_datumOf_8 rfl ?_
    refine jk_icmp_ge (q := 47) (q2 := 12) dX13_datumOf_9 rfl rfl (by first | decide | omega | exact jB_01 _) (by first | decide | omega | exact jB_01 _) (fun h1 => ?_) (fun h1 => ?_)
    · refine jk_iconst (q := 48) dX13_datumOf_47 rfl ?_
      exact jk_iret rfl dX13_datumOf_48 (by refine jk_qI ?_; unfold md_dat; rw [show (g 0).toNat = k2 by omega, hf])
    · have hrk := hrb (k2 : Int) ⟨by omega, by omega⟩
      refine jk_aload_n (q := 13) dX13_datumOf_12 rfl rfl ?_
      refine jk_getA (q := 16) (k := 13) 14 14 rfl (by first | exact hm.1 | exact hm.2.1 _ _ rfl | assumption) (by first | exact hm.2.2 _ _ rfl | assumption) rfl rfl jw_1862 dX13_datumOf_13 rfl ?_
      refine jk_iload_n (q := 17) dX13_datumOf_16 rfl rfl ?_
      refine jk_ialdR (q := 18) (by first | exact hm.1 | exact hm.2.1 _ _ rfl | assumption) (by first | exact jk_row_same _ _ _ | exact hg | exact hr | (rewrite [jk_row_ne _ _ (by omega)]; first | exact jk_row_same _ _ _ | exact hg | exact hr | (rewrite [jk_row_ne _ _ (by omega)]; first | exact jk_row_same _ _ _ | exact hg | exact hr | (rewrite [jk_row_ne _ _ (by omega)]; first | exact jk_row_same _ _ _ | exact hg | exact hr | (rewrite [jk_row_ne _ _ (by omega)]; first | exact hg | exact hr | rfl))))) (by first | decide | omega | exact jB_01 _) dX13_datumOf_17 rfl ?_
      refine jk_aload_n (q := 19) dX13_datumOf_18 rfl rfl ?_
      refine jk_getA (q := 22) (k := 13) 14 14 rfl (by first | exact hm.1 | exact hm.2.1 _ _ rfl | assumption) (by first | exact hm.2.2 _ _ rfl | assumption) rfl rfl jw_1862 dX13_datumOf_19 rfl ?_
      refine jk_iload_n (q := 23) dX13_datumOf_22 rfl rfl ?_
      refine jk_ialdR (q := 24) (by first | exact hm.1 | exact hm.2.1 _ _ rfl | assumption) (by first | exact jk_row_same _ _ _ | exact hg | exact hr | (rewrite [jk_row_ne _ _ (by omega)]; first | exact jk_row_same _ _ _ | exact hg | exact hr | (rewrite [jk_row_ne _ _ (by omega)]; first | exact jk_row_same _ _ _ | exact hg | exact hr | (rewrite [jk_row_ne _ _ (by omega)]; first | exact jk_row_same _ _ _ | exact hg | exact hr | (rewrite [jk_row_ne _ _ (by omega)]; first | exact hg | exact hr | rfl))))) (by first | decide | omega | exact jB_01 _) dX13_datumOf_23 rfl ?_
      refine jk_icmp_ne (q := 41) (q2 := 27) dX13_datumOf_24 rfl rfl (by first | decide | omega | exact jB_01 _) (by first | decide | omega | exact jB_01 _) (fun h2 => ?_) (fun h2 => ?_)
      · refine jk_iinc2 (q := 44) dX13_datumOf_41 rfl rfl rfl ?_
        refine jk_goto (q := 2) dX13_datumOf_44 rfl ?_
        refine ih2 (by omega) (jk_fnd_S hf ?_)
        simp [md_datP, *]
      · have hfx := (md_inv_pt hi (p := (k2 : Int)) ⟨by omega, by omega⟩).1
        refine jk_aload_n (q := 28) dX13_datumOf_27 rfl rfl ?_
        refine jk_getA (q := 31) (k := 13) 0 0 rfl (by first | exact hm.1 | exact hm.2.1 _ _ rfl | assumption) (by first | exact hm.2.2 _ _ rfl | assumption) rfl rfl jw_1848 dX13_datumOf_28 rfl ?_
        refine jk_iconst (q := 32) dX13_datumOf_31 rfl ?_
        refine jk_iload_n (q := 33) dX13_datumOf_32 rfl rfl ?_
        refine jk_iadd (q := 34) dX13_datumOf_33 rfl ?_
        refine jk_ialdR (q := 35) (by first | exact hm.1 | exact hm.2.1 _ _ rfl | assumption) (by first | exact jk_row_same _ _ _ | exact hg | exact hr | (rewrite [jk_row_ne _ _ (by omega)]; first | exact jk_row_same _ _ _ | exact hg | exact hr | (rewrite [jk_row_ne _ _ (by omega)]; first | exact jk_row_same _ _ _ | exact hg | exact hr | (rewrite [jk_row_ne _ _ (by omega)]; first | exact jk_row_same _ _ _ | exact hg | exact hr | (rewrite [jk_row_ne _ _ (by omega)]; first | exact hg | exact hr | rfl))))) (by first | decide | omega | exact jB_01 _) dX13_datumOf_34 rfl ?_
        refine jk_iconst (q := 36) dX13_datumOf_35 rfl ?_
        refine jk_icmp_ne (q := 41) (q2 := 39) dX13_datumOf_36 rfl rfl (by first | decide | omega | exact jB_01 _) (by first | decide | omega | exact jB_01 _) (fun h3 => ?_) (fun h3 => ?_)
        · refine jk_iinc2 (q := 44) dX13_datumOf_41 rfl rfl rfl ?_
          refine jk_goto (q := 2) dX13_datumOf_44 rfl ?_
          refine ih2 (by omega) (jk_fnd_S hf ?_)
          simp [md_datP, *]
        · refine jk_iload_n (q := 40) dX13_datumOf_39 rfl rfl ?_
          exact jk_iret rfl dX13_datumOf_40 (by refine jk_qI ?_; exact (jk_fnd_hit hf (by simp [md_datP, *]) _ (by omega)).symm)
  exact L2 0 (Nat.zero_le _) rfl
theorem c_X13_byDatum {G : jk_G} {n : Nat} {t : jk_T} {σ : jk_I} {ρ : jk_P} {m : Nat} {g : Int → Int} {B : Int} {r V : Int → Int} {p : Int} (hm : md_at t ρ m) (hg : σ (m + 2) = g) (hi : md_inv B g) (hr : σ (m + 16) = r) (hrb : ∀ p, 0 ≤ p ∧ p < 10 → 0 ≤ r p ∧ r p < 10) (hv : σ (m + 18) = V) (hp : 0 ≤ p ∧ p < 10) (hd : md_dat g r p ≠ -1) : jk_K G yX13_byDatum mX13_byDatum 0 0 [.ref m, jI p] n t σ ρ (jk_q (some (jI (md_byd g r V p))) n t σ ρ) jk_no := by
  refine jk_entryB (ls := [some (.ref m), some (jI p), none]) jm_X13_byDatum.1 rfl rfl rfl ?_
  obtain ⟨i0, i1, -⟩ := id hi
  have hdb := jk_fnd_bd (md_datP g r p) (g 0).toNat
  have hd2 : 0 ≤ md_dat g r p ∧ md_dat g r p < 10 := by unfold md_dat at hd ⊢; omega
  refine jk_aload_n (q := 1) dX13_byDatum_0 rfl rfl ?_
  refine jk_iload_n (q := 2) dX13_byDatum_1 rfl rfl ?_
  refine jk_cV1p (q := 5) (c_X13_datumOf hm hg hi hr hrb hp) jm_X13_datumOf jw_2147 rfl (by first | exact hm.1 | exact hm.2.1 _ _ rfl | assumption) rfl rfl rfl dX13_byDatum_2 rfl ?_
  refine jk_istore2 (q := 6) dX13_byDatum_5 rfl rfl rfl ?_
  refine jk_aload_n (q := 7) dX13_byDatum_6 rfl rfl ?_
  refine jk_getA (q := 10) (k := 13) 0 0 rfl (by first | exact hm.1 | exact hm.2.1 _ _ rfl | assumption) (by first | exact hm.2.2 _ _ rfl | assumption) rfl rfl jw_1848 dX13_byDatum_7 rfl ?_
  refine jk_bipush (q := 12) (y := 14) dX13_byDatum_10 rfl (by decide) ?_
  refine jk_iload_n (q := 13) dX13_byDatum_12 rfl rfl ?_
  refine jk_iadd (q := 14) dX13_byDatum_13 rfl ?_
  refine jk_ialdR (q := 15) (by first | exact hm.1 | exact hm.2.1 _ _ rfl | assumption) (by first | exact jk_row_same _ _ _ | exact hg | exact hr | exact hv | (rewrite [jk_row_ne _ _ (by omega)]; first | exact jk_row_same _ _ _ | exact hg | exact hr | exact hv | (rewrite [jk_row_ne _ _ (by omega)]; first | exact jk_row_same _ _ _ | exact hg | exact hr | exact hv | (rewrite [jk_row_ne _ _ (by omega)]; first | exact jk_row_same _ _ _ | exact hg | exact hr | exact hv | (rewrite [jk_row_ne _ _ (by omega)]; first | exact hg | exact hr | exact hv | rfl))))) (by first | decide | omega | exact jB_01 _) dX13_byDatum_14 rfl ?_
  refine jk_aload_n (q := 16) dX13_byDatum_15 rfl rfl ?_
  refine jk_getA (q := 19) (k := 13) 15 15 rfl (by first | exact hm.1 | exact hm.2.1 _ _ rfl | assumption) (by first | exact hm.2.2 _ _ rfl | assumption) rfl rfl jw_1863 dX13_byDatum_16 rfl ?_
  refine jk_iload_n (q := 20) dX13_byDatum_19 rfl rfl ?_
  refine jk_ialdR (q := 21) (by first | exact hm.1 | exact hm.2.1 _ _ rfl | assumption) (by first | exact jk_row_same _ _ _ | exact hg | exact hr | exact hv | (rewrite [jk_row_ne _ _ (by omega)]; first | exact jk_row_same _ _ _ | exact hg | exact hr | exact hv | (rewrite [jk_row_ne _ _ (by omega)]; first | exact jk_row_same _ _ _ | exact hg | exact hr | exact hv | (rewrite [jk_row_ne _ _ (by omega)]; first | exact jk_row_same _ _ _ | exact hg | exact hr | exact hv | (rewrite [jk_row_ne _ _ (by omega)]; first | exact hg | exact hr | exact hv | rfl))))) (by first | decide | omega | exact jB_01 _) dX13_byDatum_20 rfl ?_
  refine jk_iadd (q := 22) dX13_byDatum_21 rfl ?_
  refine jk_aload_n (q := 23) dX13_byDatum_22 rfl rfl ?_
  refine jk_getA (q := 26) (k := 13) 15 15 rfl (by first | exact hm.1 | exact hm.2.1 _ _ rfl | assumption) (by first | exact hm.2.2 _ _ rfl | assumption) rfl rfl jw_1863 dX13_byDatum_23 rfl ?_
  refine jk_iload_n (q := 27) dX13_byDatum_26 rfl rfl ?_
  refine jk_ialdR (q := 28) (by first | exact hm.1 | exact hm.2.1 _ _ rfl | assumption) (by first | exact jk_row_same _ _ _ | exact hg | exact hr | exact hv | (rewrite [jk_row_ne _ _ (by omega)]; first | exact jk_row_same _ _ _ | exact hg | exact hr | exact hv | (rewrite [jk_row_ne _ _ (by omega)]; first | exact jk_row_same _ _ _ | exact hg | exact hr | exact hv | (rewrite [jk_row_ne _ _ (by omega)]; first | exact jk_row_same _ _ _ | exact hg | exact hr | exact hv | (rewrite [jk_row_ne _ _ (by omega)]; first | exact hg | exact hr | exact hv | rfl))))) (by first | decide | omega | exact jB_01 _) dX13_byDatum_27 rfl ?_
  refine jk_isub (q := 29) dX13_byDatum_28 rfl ?_
  exact jk_iret rfl dX13_byDatum_29 (by exact jk_qr)
theorem c_X13_isHigh {G : jk_G} {n : Nat} {t : jk_T} {σ : jk_I} {ρ : jk_P} {m : Nat} {g : Int → Int} {B : Int} {r : Int → Int} {p : Int} (hm : md_at t ρ m) (hg : σ (m + 2) = g) (hi : md_inv B g) (hr : σ (m + 16) = r) (hrb : ∀ p, 0 ≤ p ∧ p < 10 → 0 ≤ r p ∧ r p < 10) (hp : 0 ≤ p ∧ p < 10) : jk_K G yX13_isHigh mX13_isHigh 0 0 [.ref m, jI p] n t σ ρ (jk_q (some (jI (jB (md_hi g r p)))) n t σ ρ) jk_no := by
  refine jk_entryB (ls := [some (.ref m), some (jI p)]) jm_X13_isHigh.1 rfl rfl rfl ?_
  obtain ⟨i0, i1, -⟩ := id hi
  have hdb := jk_fnd_bd (md_datP g r p) (g 0).toNat
  have hd2 : -1 ≤ md_dat g r p ∧ md_dat g r p < 10 := by unfold md_dat; omega
  refine jk_aload_n (q := 1) dX13_isHigh_0 rfl rfl ?_
  refine jk_iload_n (q := 2) dX13_isHigh_1 rfl rfl ?_
  refine jk_cV1p (q := 5) (c_X13_datumOf hm hg hi hr hrb hp) jm_X13_datumOf jw_2147 rfl (by first | exact hm.1 | exact hm.2.1 _ _ rfl | assumption) rfl rfl rfl dX13_isHigh_2 rfl ?_
  refine jk_iconst (q := 6) dX13_isHigh_5 rfl ?_
  refine jk_icmp_eq (q := 13) (q2 := 9) dX13_isHigh_6 rfl rfl (by first | decide | omega | exact jB_01 _) (by first | decide | omega | exact jB_01 _) (fun h1 => ?_) (fun h1 => ?_)
  · refine jk_iconst (q := 14) dX13_isHigh_13 rfl ?_
    exact jk_zret rfl (by first | decide | omega | exact jB_01 _) dX13_isHigh_14 (by first | (refine jk_qT ?_; simp [md_hi, *]; done) | (refine jk_qF ?_; simp [md_hi, *]; done))
  · refine jk_iconst (q := 10) dX13_isHigh_9 rfl ?_
    refine jk_goto (q := 14) dX13_isHigh_10 rfl ?_
    exact jk_zret rfl (by first | decide | omega | exact jB_01 _) dX13_isHigh_14 (by first | (refine jk_qT ?_; simp [md_hi, *]; done) | (refine jk_qF ?_; simp [md_hi, *]; done))
theorem c_X13_heightOf {G : jk_G} {n : Nat} {t : jk_T} {σ : jk_I} {ρ : jk_P} {m : Nat} {g : Int → Int} {B : Int} {r V : Int → Int} {p : Int} (hm : md_at t ρ m) (hg : σ (m + 2) = g) (hi : md_inv B g) (hr : σ (m + 16) = r) (hrb : ∀ p, 0 ≤ p ∧ p < 10 → 0 ≤ r p ∧ r p < 10) (hv : σ (m + 18) = V) (hp : 0 ≤ p ∧ p < 10) (hd : md_dat g r p ≠ -1) : jk_K G yX13_heightOf mX13_heightOf 0 0 [.ref m, jI p] n t σ ρ (jk_q (some (jI (md_ht g r V p))) n t σ ρ) jk_no := by
  refine jk_entryB (ls := [some (.ref m), some (jI p)]) jm_X13_heightOf.1 rfl rfl rfl ?_
  have hpt := md_inv_pt hi hp
  obtain ⟨q1, q2, q3⟩ := hpt
  refine jk_aload_n (q := 1) dX13_heightOf_0 rfl rfl ?_
  refine jk_getA (q := 4) (k := 13) 0 0 rfl (by first | exact hm.1 | exact hm.2.1 _ _ rfl | assumption) (by first | exact hm.2.2 _ _ rfl | assumption) rfl rfl jw_1848 dX13_heightOf_1 rfl ?_
  refine jk_iconst (q := 5) dX13_heightOf_4 rfl ?_
  refine jk_iload_n (q := 6) dX13_heightOf_5 rfl rfl ?_
  refine jk_iadd (q := 7) dX13_heightOf_6 rfl ?_
  refine jk_ialdR (q := 8) (by first | exact hm.1 | exact hm.2.1 _ _ rfl | assumption) (by first | exact jk_row_same _ _ _ | exact hg | exact hr | exact hv | (rewrite [jk_row_ne _ _ (by omega)]; first | exact jk_row_same _ _ _ | exact hg | exact hr | exact hv | (rewrite [jk_row_ne _ _ (by omega)]; first | exact jk_row_same _ _ _ | exact hg | exact hr | exact hv | (rewrite [jk_row_ne _ _ (by omega)]; first | exact jk_row_same _ _ _ | exact hg | exact hr | exact hv | (rewrite [jk_row_ne _ _ (by omega)]; first | exact hg | exact hr | exact hv | rfl))))) (by first | decide | omega | exact jB_01 _) dX13_heightOf_7 rfl ?_
  refine jk_iconst (q := 9) dX13_heightOf_8 rfl ?_
  refine jk_icmp_ne (q := 24) (q2 := 12) dX13_heightOf_9 rfl rfl (by first | decide | omega | exact jB_01 _) (by first | decide | omega | exact jB_01 _) (fun h1 => ?_) (fun h1 => ?_)
  · refine jk_aload_n (q := 25) dX13_heightOf_24 rfl rfl ?_
    refine jk_iload_n (q := 26) dX13_heightOf_25 rfl rfl ?_
    refine jk_cV1p (q := 29) (c_X13_byDatum hm hg hi hr hrb hv hp hd) jm_X13_byDatum jw_2159 rfl (by first | exact hm.1 | exact hm.2.1 _ _ rfl | assumption) rfl rfl rfl dX13_heightOf_26 rfl ?_
    exact jk_iret rfl dX13_heightOf_29 (by refine jk_qI ?_; unfold md_ht; first | rw [if_pos (by assumption)] | rw [if_neg (by assumption)])
  · refine jk_aload_n (q := 13) dX13_heightOf_12 rfl rfl ?_
    refine jk_getA (q := 16) (k := 13) 0 0 rfl (by first | exact hm.1 | exact hm.2.1 _ _ rfl | assumption) (by first | exact hm.2.2 _ _ rfl | assumption) rfl rfl jw_1848 dX13_heightOf_13 rfl ?_
    refine jk_bipush (q := 18) (y := 14) dX13_heightOf_16 rfl (by decide) ?_
    refine jk_iload_n (q := 19) dX13_heightOf_18 rfl rfl ?_
    refine jk_iadd (q := 20) dX13_heightOf_19 rfl ?_
    refine jk_ialdR (q := 21) (by first | exact hm.1 | exact hm.2.1 _ _ rfl | assumption) (by first | exact jk_row_same _ _ _ | exact hg | exact hr | exact hv | (rewrite [jk_row_ne _ _ (by omega)]; first | exact jk_row_same _ _ _ | exact hg | exact hr | exact hv | (rewrite [jk_row_ne _ _ (by omega)]; first | exact jk_row_same _ _ _ | exact hg | exact hr | exact hv | (rewrite [jk_row_ne _ _ (by omega)]; first | exact jk_row_same _ _ _ | exact hg | exact hr | exact hv | (rewrite [jk_row_ne _ _ (by omega)]; first | exact hg | exact hr | exact hv | rfl))))) (by first | decide | omega | exact jB_01 _) dX13_heightOf_20 rfl ?_
    refine jk_goto (q := 29) dX13_heightOf_21 rfl ?_
    exact jk_iret rfl dX13_heightOf_29 (by refine jk_qI ?_; unfold md_ht; first | rw [if_pos (by assumption)] | rw [if_neg (by assumption)])
def md_len (g S : Int → Int) : Int := jk_sum (fun l => if S l = 0 then 0 else g (56 + l)) (g 1).toNat
def md_err (g S : Int → Int) : Int := jk_sum (fun l => S l * md_cor g l) (g 1).toNat
theorem c_X13_lengthAround {G : jk_G} {n : Nat} {t : jk_T} {σ : jk_I} {ρ : jk_P} {m : Nat} {g : Int → Int} {B : Int} {S : Int → Int} (hm : md_at t ρ m) (hg : σ (m + 2) = g) (hi : md_inv B g) (hs : σ (m + 22) = S) (hsb : ∀ l, 0 ≤ l ∧ l < 16 → -1 ≤ S l ∧ S l ≤ 1) : jk_K G yX13_lengthAround mX13_lengthAround 0 0 [.ref m] n t σ ρ (jk_q (some (jI (md_len g S))) n t σ ρ) jk_no := by
  refine jk_entryB (ls := [some (.ref m), none, none]) jm_X13_lengthAround.1 rfl rfl rfl ?_
  obtain ⟨i0, i1, -⟩ := id hi
  refine jk_iconst (q := 1) dX13_lengthAround_0 rfl ?_
  refine jk_istore1 (q := 2) dX13_lengthAround_1 rfl rfl rfl ?_
  refine jk_iconst (q := 3) dX13_lengthAround_2 rfl ?_
  refine jk_istore2 (q := 4) dX13_lengthAround_3 rfl rfl rfl ?_
  have L4 : ∀ k4 : Nat, k4 ≤ (g 1).toNat → jk_J G mX13_lengthAround 4 [some (.ref m), some (jI (jk_sum (fun l => if S l = 0 then 0 else g (56 + l)) k4)), some (jI (k4 : Int))] [] n t σ ρ 0 0 (jk_q (some (jI (md_len g S))) n t σ ρ) jk_no := by
    refine jk_loop _ (fun k4 hk4 ih4 => ?_)
    refine jk_iload_n (q := 5) dX13_lengthAround_4 rfl rfl ?_
    refine jk_aload_n (q := 6) dX13_lengthAround_5 rfl rfl ?_
    refine jk_getA (q := 9) (k := 13) 0 0 rfl (by first | exact hm.1 | exact hm.2.1 _ _ rfl | assumption) (by first | exact hm.2.2 _ _ rfl | assumption) rfl rfl jw_1848 dX13_lengthAround_6 rfl ?_
    refine jk_iconst (q := 10) dX13_lengthAround_9 rfl ?_
    refine jk_ialdR (q := 11) (by first | exact hm.1 | exact hm.2.1 _ _ rfl | assumption) (by first | exact jk_row_same _ _ _ | exact hg | exact hs | (rewrite [jk_row_ne _ _ (by omega)]; first | exact jk_row_same _ _ _ | exact hg | exact hs | (rewrite [jk_row_ne _ _ (by omega)]; first | exact jk_row_same _ _ _ | exact hg | exact hs | (rewrite [jk_row_ne _ _ (by omega)]; first | exact jk_row_same _ _ _ | exact hg | exact hs | (rewrite [jk_row_ne _ _ (by omega)]; first | exact hg | exact hs | rfl))))) (by first | decide | omega | exact jB_01 _) dX13_lengthAround_10 rfl ?_
    refine jk_icmp_ge (q := 45) (q2 := 14) dX13_lengthAround_11 rfl rfl (by first | decide | omega | exact jB_01 _) (by first | decide | omega | exact jB_01 _) (fun h1 => ?_) (fun h1 => ?_)
    · refine jk_iload_n (q := 46) dX13_lengthAround_45 rfl rfl ?_
      exact jk_iret rfl dX13_lengthAround_46 (by refine jk_qI ?_; unfold md_len; rw [show (g 1).toNat = k4 by omega])
    · refine jk_iload_n (q := 15) dX13_lengthAround_14 rfl rfl ?_
      have hsk := hsb (k4 : Int) ⟨by omega, by omega⟩
      refine jk_aload_n (q := 16) dX13_lengthAround_15 rfl rfl ?_
      refine jk_getA (q := 19) (k := 13) 17 17 rfl (by first | exact hm.1 | exact hm.2.1 _ _ rfl | assumption) (by first | exact hm.2.2 _ _ rfl | assumption) rfl rfl jw_1865 dX13_lengthAround_16 rfl ?_
      refine jk_iload_n (q := 20) dX13_lengthAround_19 rfl rfl ?_
      refine jk_ialdR (q := 21) (by first | exact hm.1 | exact hm.2.1 _ _ rfl | assumption) (by first | exact jk_row_same _ _ _ | exact hg | exact hs | (rewrite [jk_row_ne _ _ (by omega)]; first | exact jk_row_same _ _ _ | exact hg | exact hs | (rewrite [jk_row_ne _ _ (by omega)]; first | exact jk_row_same _ _ _ | exact hg | exact hs | (rewrite [jk_row_ne _ _ (by omega)]; first | exact jk_row_same _ _ _ | exact hg | exact hs | (rewrite [jk_row_ne _ _ (by omega)]; first | exact hg | exact hs | rfl))))) (by first | decide | omega | exact jB_01 _) dX13_lengthAround_20 rfl ?_
      refine jk_if_eq (q := 36) (q2 := 24) dX13_lengthAround_21 rfl rfl (by first | decide | omega | exact jB_01 _) (fun h2 => ?_) (fun h2 => ?_)
      · refine jk_iconst (q := 37) dX13_lengthAround_36 rfl ?_
        refine jk_iadd (q := 38) dX13_lengthAround_37 rfl ?_
        refine jk_istore1 (q := 39) dX13_lengthAround_38 rfl rfl rfl ?_
        refine jk_iinc2 (q := 42) dX13_lengthAround_39 rfl rfl rfl ?_
        refine jk_goto (q := 4) dX13_lengthAround_42 rfl ?_
        refine jk_convl (ih4 (by omega)) (jk_loc rfl (jk_loc (jk_li ?_) rfl))
        simp [jk_sum, *]
      · refine jk_aload_n (q := 25) dX13_lengthAround_24 rfl rfl ?_
        refine jk_getA (q := 28) (k := 13) 0 0 rfl (by first | exact hm.1 | exact hm.2.1 _ _ rfl | assumption) (by first | exact hm.2.2 _ _ rfl | assumption) rfl rfl jw_1848 dX13_lengthAround_25 rfl ?_
        refine jk_bipush (q := 30) (y := 56) dX13_lengthAround_28 rfl (by decide) ?_
        refine jk_iload_n (q := 31) dX13_lengthAround_30 rfl rfl ?_
        refine jk_iadd (q := 32) dX13_lengthAround_31 rfl ?_
        refine jk_ialdR (q := 33) (by first | exact hm.1 | exact hm.2.1 _ _ rfl | assumption) (by first | exact jk_row_same _ _ _ | exact hg | exact hs | (rewrite [jk_row_ne _ _ (by omega)]; first | exact jk_row_same _ _ _ | exact hg | exact hs | (rewrite [jk_row_ne _ _ (by omega)]; first | exact jk_row_same _ _ _ | exact hg | exact hs | (rewrite [jk_row_ne _ _ (by omega)]; first | exact jk_row_same _ _ _ | exact hg | exact hs | (rewrite [jk_row_ne _ _ (by omega)]; first | exact hg | exact hs | rfl))))) (by first | decide | omega | exact jB_01 _) dX13_lengthAround_32 rfl ?_
        refine jk_goto (q := 37) dX13_lengthAround_33 rfl ?_
        refine jk_iadd (q := 38) dX13_lengthAround_37 rfl ?_
        refine jk_istore1 (q := 39) dX13_lengthAround_38 rfl rfl rfl ?_
        refine jk_iinc2 (q := 42) dX13_lengthAround_39 rfl rfl rfl ?_
        refine jk_goto (q := 4) dX13_lengthAround_42 rfl ?_
        refine jk_convl (ih4 (by omega)) (jk_loc rfl (jk_loc (jk_li ?_) rfl))
        simp [jk_sum, *]
  exact L4 0 (Nat.zero_le _)
theorem c_X13_errorAround {G : jk_G} {n : Nat} {t : jk_T} {σ : jk_I} {ρ : jk_P} {m : Nat} {g : Int → Int} {B : Int} {S : Int → Int} (hm : md_at t ρ m) (hg : σ (m + 2) = g) (hi : md_inv B g) (hs : σ (m + 22) = S) (hsb : ∀ l, 0 ≤ l ∧ l < 16 → -1 ≤ S l ∧ S l ≤ 1) : jk_K G yX13_errorAround mX13_errorAround 0 0 [.ref m] n t σ ρ (jk_q (some (jI (md_err g S))) n t σ ρ) jk_no := by
  refine jk_entryB (ls := [some (.ref m), none, none]) jm_X13_errorAround.1 rfl rfl rfl ?_
  obtain ⟨i0, i1, -⟩ := id hi
  refine jk_iconst (q := 1) dX13_errorAround_0 rfl ?_
  refine jk_istore1 (q := 2) dX13_errorAround_1 rfl rfl rfl ?_
  refine jk_iconst (q := 3) dX13_errorAround_2 rfl ?_
  refine jk_istore2 (q := 4) dX13_errorAround_3 rfl rfl rfl ?_
  have L4 : ∀ k4 : Nat, k4 ≤ (g 1).toNat → jk_J G mX13_errorAround 4 [some (.ref m), some (jI (jk_sum (fun l => S l * md_cor g l) k4)), some (jI (k4 : Int))] [] n t σ ρ 0 0 (jk_q (some (jI (md_err g S))) n t σ ρ) jk_no := by
    refine jk_loop _ (fun k4 hk4 ih4 => ?_)
    refine jk_iload_n (q := 5) dX13_errorAround_4 rfl rfl ?_
    refine jk_aload_n (q := 6) dX13_errorAround_5 rfl rfl ?_
    refine jk_getA (q := 9) (k := 13) 0 0 rfl (by first | exact hm.1 | exact hm.2.1 _ _ rfl | assumption) (by first | exact hm.2.2 _ _ rfl | assumption) rfl rfl jw_1848 dX13_errorAround_6 rfl ?_
    refine jk_iconst (q := 10) dX13_errorAround_9 rfl ?_
    refine jk_ialdR (q := 11) (by first | exact hm.1 | exact hm.2.1 _ _ rfl | assumption) (by first | exact jk_row_same _ _ _ | exact hg | exact hs | (rewrite [jk_row_ne _ _ (by omega)]; first | exact jk_row_same _ _ _ | exact hg | exact hs | (rewrite [jk_row_ne _ _ (by omega)]; first | exact jk_row_same _ _ _ | exact hg | exact hs | (rewrite [jk_row_ne _ _ (by omega)]; first | exact jk_row_same _ _ _ | exact hg | exact hs | (rewrite [jk_row_ne _ _ (by omega)]; first | exact hg | exact hs | rfl))))) (by first | decide | omega | exact jB_01 _) dX13_errorAround_10 rfl ?_
    refine jk_icmp_ge (q := 35) (q2 := 14) dX13_errorAround_11 rfl rfl (by first | decide | omega | exact jB_01 _) (by first | decide | omega | exact jB_01 _) (fun h1 => ?_) (fun h1 => ?_)
    · refine jk_iload_n (q := 36) dX13_errorAround_35 rfl rfl ?_
      exact jk_iret rfl dX13_errorAround_36 (by refine jk_qI ?_; unfold md_err; rw [show (g 1).toNat = k4 by omega])
    · refine jk_iload_n (q := 15) dX13_errorAround_14 rfl rfl ?_
      refine jk_aload_n (q := 16) dX13_errorAround_15 rfl rfl ?_
      refine jk_getA (q := 19) (k := 13) 17 17 rfl (by first | exact hm.1 | exact hm.2.1 _ _ rfl | assumption) (by first | exact hm.2.2 _ _ rfl | assumption) rfl rfl jw_1865 dX13_errorAround_16 rfl ?_
      refine jk_iload_n (q := 20) dX13_errorAround_19 rfl rfl ?_
      refine jk_ialdR (q := 21) (by first | exact hm.1 | exact hm.2.1 _ _ rfl | assumption) (by first | exact jk_row_same _ _ _ | exact hg | exact hs | (rewrite [jk_row_ne _ _ (by omega)]; first | exact jk_row_same _ _ _ | exact hg | exact hs | (rewrite [jk_row_ne _ _ (by omega)]; first | exact jk_row_same _ _ _ | exact hg | exact hs | (rewrite [jk_row_ne _ _ (by omega)]; first | exact jk_row_same _ _ _ | exact hg | exact hs | (rewrite [jk_row_ne _ _ (by omega)]; first | exact hg | exact hs | rfl))))) (by first | decide | omega | exact jB_01 _) dX13_errorAround_20 rfl ?_
      refine jk_aload_n (q := 22) dX13_errorAround_21 rfl rfl ?_
      refine jk_iload_n (q := 23) dX13_errorAround_22 rfl rfl ?_
      refine jk_cV1p (q := 26) (c_X13_corrected hm hg hi ⟨by omega, by omega⟩) jm_X13_corrected jw_2052 rfl (by first | exact hm.1 | exact hm.2.1 _ _ rfl | assumption) rfl rfl rfl dX13_errorAround_23 rfl ?_
      refine jk_imul (q := 27) dX13_errorAround_26 rfl ?_
      refine jk_iadd (q := 28) dX13_errorAround_27 rfl ?_
      refine jk_istore1 (q := 29) dX13_errorAround_28 rfl rfl rfl ?_
      refine jk_iinc2 (q := 32) dX13_errorAround_29 rfl rfl rfl ?_
      refine jk_goto (q := 4) dX13_errorAround_32 rfl ?_
      refine jk_convl (ih4 (by omega)) (jk_loc rfl (jk_loc (jk_li ?_) rfl))
      simp [jk_sum, *]
  exact L4 0 (Nat.zero_le _)
def md_rem (g S : Int → Int) (l e len : Int) : Int := if S l = 0 then -1 else (e * g (56 + l)) % len
theorem c_X13_remainder {G : jk_G} {n : Nat} {t : jk_T} {σ : jk_I} {ρ : jk_P} {m : Nat} {g : Int → Int} {B : Int} {S : Int → Int} {l e len : Int} (hm : md_at t ρ m) (hg : σ (m + 2) = g) (hi : md_inv B g) (hs : σ (m + 22) = S) (hsb : ∀ l, 0 ≤ l ∧ l < 16 → -1 ≤ S l ∧ S l ≤ 1) (hl : 0 ≤ l ∧ l < 16) (he : 0 ≤ e ∧ e ≤ 40000000) (hlen : 0 < len ∧ len ≤ 1000) : jk_K G yX13_remainder mX13_remainder 0 0 [.ref m, jI l, jI e, jI len] n t σ ρ (jk_q (some (jI (md_rem g S l e len))) n t σ ρ) jk_no := by
  refine jk_entryB (ls := [some (.ref m), some (jI l), some (jI e), some (jI len)]) jm_X13_remainder.1 rfl rfl rfl ?_
  have hsk := hsb l hl
  obtain ⟨l1, l2, l3, l4, l5, l6, l7, l8⟩ := md_inv_ln hi hl
  have hpb : e * g (56 + l) ≤ 40000000 * 50 := Int.mul_le_mul (by omega) (by omega) (by omega) (by omega)
  have hp0 : 0 ≤ e * g (56 + l) := Int.mul_nonneg (by omega) (by omega)
  refine jk_aload_n (q := 1) dX13_remainder_0 rfl rfl ?_
  refine jk_getA (q := 4) (k := 13) 17 17 rfl (by first | exact hm.1 | exact hm.2.1 _ _ rfl | assumption) (by first | exact hm.2.2 _ _ rfl | assumption) rfl rfl jw_1865 dX13_remainder_1 rfl ?_
  refine jk_iload_n (q := 5) dX13_remainder_4 rfl rfl ?_
  refine jk_ialdR (q := 6) (by first | exact hm.1 | exact hm.2.1 _ _ rfl | assumption) (by first | exact jk_row_same _ _ _ | exact hg | exact hs | (rewrite [jk_row_ne _ _ (by omega)]; first | exact jk_row_same _ _ _ | exact hg | exact hs | (rewrite [jk_row_ne _ _ (by omega)]; first | exact jk_row_same _ _ _ | exact hg | exact hs | (rewrite [jk_row_ne _ _ (by omega)]; first | exact jk_row_same _ _ _ | exact hg | exact hs | (rewrite [jk_row_ne _ _ (by omega)]; first | exact hg | exact hs | rfl))))) (by first | decide | omega | exact jB_01 _) dX13_remainder_5 rfl ?_
  refine jk_if_ne (q := 13) (q2 := 9) dX13_remainder_6 rfl rfl (by first | decide | omega | exact jB_01 _) (fun h1 => ?_) (fun h1 => ?_)
  · refine jk_iload_n (q := 14) dX13_remainder_13 rfl rfl ?_
    refine jk_aload_n (q := 15) dX13_remainder_14 rfl rfl ?_
    refine jk_getA (q := 18) (k := 13) 0 0 rfl (by first | exact hm.1 | exact hm.2.1 _ _ rfl | assumption) (by first | exact hm.2.2 _ _ rfl | assumption) rfl rfl jw_1848 dX13_remainder_15 rfl ?_
    refine jk_bipush (q := 20) (y := 56) dX13_remainder_18 rfl (by decide) ?_
    refine jk_iload_n (q := 21) dX13_remainder_20 rfl rfl ?_
    refine jk_iadd (q := 22) dX13_remainder_21 rfl ?_
    refine jk_ialdR (q := 23) (by first | exact hm.1 | exact hm.2.1 _ _ rfl | assumption) (by first | exact jk_row_same _ _ _ | exact hg | exact hs | (rewrite [jk_row_ne _ _ (by omega)]; first | exact jk_row_same _ _ _ | exact hg | exact hs | (rewrite [jk_row_ne _ _ (by omega)]; first | exact jk_row_same _ _ _ | exact hg | exact hs | (rewrite [jk_row_ne _ _ (by omega)]; first | exact jk_row_same _ _ _ | exact hg | exact hs | (rewrite [jk_row_ne _ _ (by omega)]; first | exact hg | exact hs | rfl))))) (by first | decide | omega | exact jB_01 _) dX13_remainder_22 rfl ?_
    refine jk_imul (q := 24) dX13_remainder_23 rfl ?_
    refine jk_iload_n (q := 25) dX13_remainder_24 rfl rfl ?_
    refine jk_iremP (q := 26) dX13_remainder_25 rfl (by first | decide | omega | exact jB_01 _) ?_
    exact jk_iret rfl dX13_remainder_26 (by refine jk_qI ?_; unfold md_rem; first | rw [if_pos (by assumption)] | rw [if_neg (by assumption)])
  · refine jk_iconst (q := 10) dX13_remainder_9 rfl ?_
    refine jk_goto (q := 26) dX13_remainder_10 rfl ?_
    exact jk_iret rfl dX13_remainder_26 (by refine jk_qI ?_; unfold md_rem; first | rw [if_pos (by assumption)] | rw [if_neg (by assumption)])
end MD5
