section MD11
/-- what holds of the lines that exist -/
def md_inw (g : Int → Int) : Prop := ∀ l, 0 ≤ l ∧ l < g 1 → 1 ≤ g (56 + l) ∧ g (24 + l) < g 0 ∧ g (40 + l) < g 0 ∧ g (24 + l) ≠ g (40 + l)
theorem md_lp_ne (σ : jk_I) (m : Nat) (g : Int → Int) (l : Int) {a : Nat} (h : a ≠ m + 14 ∧ a ≠ m + 16 ∧ a ≠ m + 18 ∧ a ≠ m + 20 ∧ a ≠ m + 22 ∧ a ≠ m + 26) : md_lp σ m g l a = σ a := by
  unfold md_lp
  rw [jk_row_ne _ _ h.2.2.2.2.1, jk_row_ne _ _ h.2.2.2.1, jk_row_ne _ _ h.2.2.2.2.2, md_gr_ne _ _ _ ⟨h.1, h.2.1, h.2.2.1, h.2.2.2.1⟩]
theorem md_lp_sg (σ : jk_I) (m : Nat) (g : Int → Int) (l : Int) : md_lp σ m g l (m + 22) = md_sgn g (md_T g) l := jk_row_same _ _ _
def md_sb (S : Int → Int) : Prop := ∀ l, -1 ≤ S l ∧ S l ≤ 1
theorem md_stp_sb {g rb : Int → Int} {s : Int × (Int → Int)} (h : md_sb s.2) : md_sb (md_stp g rb s).2 := fun l => by
  show -1 ≤ jk_set s.2 (rb s.1) (if _ then _ else _) l ∧ jk_set s.2 (rb s.1) (if _ then _ else _) l ≤ 1
  unfold jk_set
  split
  · split <;> decide
  · exact h l
theorem md_cw_sb {g rb : Int → Int} {q : Int} : ∀ (f : Nat) {s : Int × (Int → Int)}, md_sb s.2 → md_sb (md_cw g rb q f s).2
  | 0, _, h => h
  | f + 1, s, h => by
    unfold md_cw
    split
    · exact h
    · exact md_cw_sb f (md_stp_sb h)
theorem md_sgn_sb (g T : Int → Int) (l : Int) : md_sb (md_sgn g T l) := fun j => by
  unfold md_sgn jk_set
  split
  · decide
  · exact md_cw_sb 10 (s := (g (40 + l), fun _ => 0)) (fun _ => by show -1 ≤ (0 : Int) ∧ (0 : Int) ≤ 1; decide) j
theorem md_wlk_z {g rb : Int → Int} {p0 q : Int} {J : Nat} (h : md_ok g rb p0 q J) : ∀ i : Nat, i ≤ J → md_zf 16 (md_wlk g rb p0 i).2
  | 0, _ => fun _ _ => rfl
  | i + 1, hi => md_zf_set (md_wlk_z h i (by omega)) (h.2.2 i (by omega)).2.2
theorem md_sgn_z {g T : Int → Int} {l : Int} (hl : 0 ≤ l ∧ l < 16) {J : Nat} (h : md_ok g (md_reach g T (g (24 + l))).2 (g (40 + l)) (g (24 + l)) J) : md_zf 16 (md_sgn g T l) := by
  unfold md_sgn
  have h9 := md_cw_eq h J 0 (10 - J) (by omega)
  rw [show J + (10 - J) = 10 by have := h.1; omega] at h9
  rw [show (g (40 + l), fun _ => (0 : Int)) = md_wlk g (md_reach g T (g (24 + l))).2 (g (40 + l)) 0 from rfl, h9]
  exact md_zf_set (md_wlk_z h J (Nat.le_refl _)) hl
theorem jk_sum_ge {f : Int → Int} {i : Int} : ∀ k : Nat, (∀ j, 0 ≤ j → j < (k : Int) → 0 ≤ f j) → 0 ≤ i → i < (k : Int) → f i ≤ jk_sum f k
  | 0, _, h1, h2 => by omega
  | k + 1, h, h1, h2 => by
    show f i ≤ jk_sum f k + f (k : Int)
    by_cases hk : i = (k : Int)
    · subst hk
      have := jk_sum_bd2 (f := f) (a := 0) (b := 0)
      have h3 : 0 ≤ jk_sum f k := by
        clear this h1 h2
        induction k with
        | zero => exact Int.le_refl _
        | succ k ih => show 0 ≤ jk_sum f k + f (k : Int); have := ih (fun j a b => h j a (by omega)); have := h (k : Int) (by omega) (by omega); omega
      omega
    · have := jk_sum_ge (f := f) k (fun j a b => h j a (by omega)) h1 (by omega)
      have := h (k : Int) (by omega) (by omega)
      omega
theorem md_len_pos {B : Int} {g : Int → Int} (hi : md_inv B g) (hw : md_inw g) {T : Int → Int} {l : Int} (hl : 0 ≤ l ∧ l < g 1) : 0 < md_len g (md_sgn g T l) := by
  unfold md_len
  have hg1 := hi.2.1
  have h := jk_sum_ge (f := fun j => if md_sgn g T l j = 0 then 0 else g (56 + j)) (i := l) (g 1).toNat (fun j a b => by
    show 0 ≤ (if md_sgn g T l j = 0 then 0 else g (56 + j))
    have := (md_inv_ln hi (l := j) ⟨a, by omega⟩).2.2.1
    split <;> omega) hl.1 (by omega)
  have e : (if md_sgn g T l l = 0 then 0 else g (56 + l)) = g (56 + l) := if_neg (by unfold md_sgn; rw [jk_set_at]; decide)
  rw [e] at h
  have := (hw l hl).1
  omega
def md_shk (g S P : Int → Int) (d k : Int) : Int → Int := fun p => if 136 ≤ p ∧ p < 136 + k then g p + d * S (p - 136) * P (p - 136) else g p
theorem md_shk_S (g S P : Int → Int) (d : Int) (k : Nat) : jk_set (md_shk g S P d (k : Int)) (136 + (k : Int)) (md_shk g S P d (k : Int) (136 + (k : Int)) + d * S (k : Int) * P (k : Int)) = md_shk g S P d ((k + 1 : Nat) : Int) := by
  funext p
  unfold jk_set md_shk
  by_cases hp : p = 136 + (k : Int)
  · subst hp; rw [if_pos rfl, if_neg (by omega), if_pos (by omega), show 136 + (k : Int) - 136 = (k : Int) by omega]
  · rw [if_neg hp]
    by_cases h : 136 ≤ p ∧ p < 136 + (k : Int)
    · rw [if_pos h, if_pos (by omega)]
    · rw [if_neg h, if_neg (by omega)]
theorem md_shk_0 (g S P : Int → Int) (d : Int) : md_shk g S P d ((0 : Nat) : Int) = g := by funext p; unfold md_shk; rw [if_neg (by omega)]
def md_dir (e : Int) : Int := if 0 < e then -1 else 1
def md_shares (g : Int → Int) (l : Int) : md_R3 :=
  if 0 < md_why g l then (md_why g l, 0, g) else
  if md_tol (md_len g (md_sgn g (md_T g) l)) < md_abs (md_err g (md_sgn g (md_T g) l)) then (3, 0, g) else
  (0, md_err g (md_sgn g (md_T g) l), md_shk g (md_sgn g (md_T g) l) (md_parts g (md_sgn g (md_T g) l)) (md_dir (md_err g (md_sgn g (md_T g) l))) (g 1))
def md_shS (σ : jk_I) (m : Nat) (g : Int → Int) (l : Int) : jk_I :=
  if 0 < md_why g l then md_whyS σ m g l else
  if md_tol (md_len g (md_sgn g (md_T g) l)) < md_abs (md_err g (md_sgn g (md_T g) l)) then md_lp σ m g l else jk_row (md_lp σ m g l) (m + 24) (md_parts g (md_sgn g (md_T g) l))
theorem md_why_bd (g : Int → Int) (l : Int) : 0 ≤ md_why g l ∧ md_why g l ≤ 2 := by unfold md_why; (repeat' split) <;> decide
theorem md_whyS_ne (σ : jk_I) (m : Nat) (g : Int → Int) (l : Int) {a : Nat} (h : a ≠ m + 14 ∧ a ≠ m + 16 ∧ a ≠ m + 18 ∧ a ≠ m + 20 ∧ a ≠ m + 22 ∧ a ≠ m + 26) : md_whyS σ m g l a = σ a := by
  unfold md_whyS
  split
  · rfl
  · split
    · exact md_gr_ne _ _ _ ⟨h.1, h.2.1, h.2.2.1, h.2.2.2.1⟩
    · exact md_lp_ne _ _ _ _ h
theorem md_why0 {σ : jk_I} {m : Nat} {g : Int → Int} {l : Int} (h : ¬ 0 < md_why g l) : md_whyS σ m g l = md_lp σ m g l ∧ md_in l 0 (g 1 - 1) = true ∧ md_clo g (md_T g) l = true := by
  unfold md_why at h
  unfold md_whyS
  cases h1 : md_in l 0 (g 1 - 1) <;> rw [h1] at h
  · exact absurd (show (0 : Int) < 1 by decide) h
  · cases h2 : md_clo g (md_T g) l <;> rw [h2] at h
    · exact absurd (show (0 : Int) < 2 by decide) h
    · exact ⟨rfl, rfl, rfl⟩
theorem md_sq {n : Nat} {t : jk_T} {σ σ' : jk_I} {ρ : jk_P} {m : Nat} {O : Int → Int} {g : Int → Int} {l v : Int} {r : md_R3} {σ2 : jk_I} (hr : md_shares g l = r) (hS : md_shS σ m g l = σ2) (hv : r.2.1 = v) (hs : σ' = md_res σ2 m O r) : jk_q (some (jI (md_shares g l).2.1)) n t (md_res (md_shS σ m g l) m O (md_shares g l)) ρ (some (jI v)) n t σ' ρ := by subst hr hS hv hs; exact jk_qr
theorem c_X13_shares {G : jk_G} {n : Nat} {t : jk_T} {σ : jk_I} {ρ : jk_P} {m : Nat} {g : Int → Int} {B : Int} {O : Int → Int} {l : Int} (hm : md_at t ρ m) (hg : σ (m + 2) = g) (hi : md_inv B g) (ho : σ m = O) (hz : md_z σ m) (hz1 : md_z10 σ m) (hJ : md_loops g) (hw : md_inw g) (hl : jk_in l) : jk_K G yX13_shares mX13_shares 0 0 [.ref m, jI l] n t σ ρ (jk_q (some (jI (md_shares g l).2.1)) n t (md_res (md_shS σ m g l) m O (md_shares g l)) ρ) jk_no := by
  refine jk_entryB (ls := [some (.ref m), some (jI l), none, none, none, none]) jm_X13_shares.1 rfl rfl rfl ?_
  obtain ⟨i0, i1, i2, i3, -⟩ := id hi
  have hwb := md_why_bd g l
  refine jk_aload_n (q := 1) dX13_shares_0 rfl rfl ?_
  refine jk_iload_n (q := 2) dX13_shares_1 rfl rfl ?_
  refine jk_cV1p (q := 5) (c_X13_whyNoLoop hm hg hi hz hz1 hJ hl) jm_X13_whyNoLoop jw_2032 rfl (by first | exact hm.1 | exact hm.2.1 _ _ rfl | assumption) rfl rfl rfl dX13_shares_2 rfl ?_
  refine jk_istore2 (q := 6) dX13_shares_5 rfl rfl rfl ?_
  refine jk_iload_n (q := 7) dX13_shares_6 rfl rfl ?_
  refine jk_if_le (q := 16) (q2 := 10) dX13_shares_7 rfl rfl (by first | decide | omega | exact jB_01 _) (fun h1 => ?_) (fun h1 => ?_)
  · have hnw : ¬ 0 < md_why g l := (by omega)
    obtain ⟨hws, hin9, hcl9⟩ := md_why0 (σ := σ) (m := m) hnw
    rw [hws]
    have hl9 := md_inT hin9
    obtain ⟨J, hJ9⟩ := hJ l ⟨by omega, by omega⟩ hcl9
    have hsz := md_sgn_z ⟨by omega, by omega⟩ hJ9
    have hsb := md_sgn_sb g (md_T g) l
    have heb := md_err_bd hi (S := md_sgn g (md_T g) l) (fun j _ => hsb j)
    have hlb := md_len_bd (S := md_sgn g (md_T g) l) hi
    have hlp := md_len_pos hi hw (T := md_T g) (l := l) ⟨by omega, by omega⟩
    have htb := md_tol_bd (md_len g (md_sgn g (md_T g) l))
    have hab : 0 ≤ md_abs (md_err g (md_sgn g (md_T g) l)) ∧ md_abs (md_err g (md_sgn g (md_T g) l)) ≤ 17759984 := (by unfold md_abs; split <;> omega)
    refine jk_aload_n (q := 17) dX13_shares_16 rfl rfl ?_
    refine jk_cV0p (q := 20) (c_X13_errorAround hm ((md_lp_ne _ _ _ _ ⟨by omega, by omega, by omega, by omega, by omega, by omega⟩).trans hg) hi (md_lp_sg σ m g l) (fun j _ => hsb j)) jm_X13_errorAround jw_2075 rfl (by first | exact hm.1 | exact hm.2.1 _ _ rfl | assumption) rfl rfl rfl dX13_shares_17 rfl ?_
    refine jk_istore3 (q := 21) dX13_shares_20 rfl rfl rfl ?_
    refine jk_iload_n (q := 22) dX13_shares_21 rfl rfl ?_
    refine jk_cS1p (q := 25) (c_X13_size (by omega)) jm_X13_size jw_2014 rfl rfl rfl dX13_shares_22 rfl ?_
    refine jk_aload_n (q := 26) dX13_shares_25 rfl rfl ?_
    refine jk_cV0p (q := 29) (c_X13_lengthAround hm ((md_lp_ne _ _ _ _ ⟨by omega, by omega, by omega, by omega, by omega, by omega⟩).trans hg) hi (md_lp_sg σ m g l) (fun j _ => hsb j)) jm_X13_lengthAround jw_2079 rfl (by first | exact hm.1 | exact hm.2.1 _ _ rfl | assumption) rfl rfl rfl dX13_shares_26 rfl ?_
    refine jk_cS1p (q := 32) (c_X13_allowed (by omega)) jm_X13_allowed jw_2017 rfl rfl rfl dX13_shares_29 rfl ?_
    refine jk_icmp_le (q := 41) (q2 := 35) dX13_shares_32 rfl rfl (by first | decide | omega | exact jB_01 _) (by first | decide | omega | exact jB_01 _) (fun h2 => ?_) (fun h2 => ?_)
    · refine jk_aload_n (q := 42) dX13_shares_41 rfl rfl ?_
      refine jk_cV0v (q := 45) (c_X13_sharesOut hm ((md_lp_ne _ _ _ _ ⟨by omega, by omega, by omega, by omega, by omega, by omega⟩).trans hg) hi (md_lp_sg σ m g l) (fun j _ => hsb j) (fun p hp => ⟨by rw [show md_lp σ m g l (m + 14) = md_T g by unfold md_lp; rw [jk_row_ne _ _ (by omega), jk_row_ne _ _ (by omega), jk_row_ne _ _ (by omega)]; exact (md_gr_at σ m g).1]; exact (md_kr_z hi 50).1 p hp, by rw [md_lp_sg]; exact hsz p hp, by rw [md_lp_ne _ _ _ _ ⟨by omega, by omega, by omega, by omega, by omega, by omega⟩]; exact (hz p hp).2.2⟩) hlp) jm_X13_sharesOut jw_2083 rfl (by first | exact hm.1 | exact hm.2.1 _ _ rfl | assumption) rfl rfl rfl dX13_shares_42 rfl ?_
      refine jk_iload_n (q := 46) dX13_shares_45 rfl rfl ?_
      refine jk_if_le (q := 53) (q2 := 49) dX13_shares_46 rfl rfl (by first | decide | omega | exact jB_01 _) (fun h3 => ?_) (fun h3 => ?_)
      · refine jk_iconst (q := 54) dX13_shares_53 rfl ?_
        refine jk_istore4 (q := 56) dX13_shares_54 rfl rfl rfl ?_
        refine jk_iconst (q := 57) dX13_shares_56 rfl ?_
        refine jk_istore5 (q := 59) dX13_shares_57 rfl rfl rfl ?_
        have L59 : ∀ k59 : Nat, k59 ≤ (g 1).toNat → ∀ (σ1 : jk_I), (hs1 : σ1 = jk_row (jk_row (md_lp σ m g l) (m + 24) (md_parts g (md_sgn g (md_T g) l))) (m + 2) (md_shk g (md_sgn g (md_T g) l) (md_parts g (md_sgn g (md_T g) l)) (md_dir (md_err g (md_sgn g (md_T g) l))) (k59 : Int))) → jk_J G mX13_shares 59 [some (.ref m), some (jI l), some (jI (md_why g l)), some (jI (md_err g (md_sgn g (md_T g) l))), some (jI (md_dir (md_err g (md_sgn g (md_T g) l)))), some (jI (k59 : Int))] [] n t σ1 ρ 0 0 (jk_q (some (jI (md_shares g l).2.1)) n t (md_res (md_shS σ m g l) m O (md_shares g l)) ρ) jk_no := by
          refine jk_loop _ (fun k59 hk59 ih59 => ?_)
          intro σ1 hs1
          have hg1 : σ1 (m + 2) = md_shk g (md_sgn g (md_T g) l) (md_parts g (md_sgn g (md_T g) l)) (md_dir (md_err g (md_sgn g (md_T g) l))) (k59 : Int) := by rw [hs1, jk_row_same]
          have ho1 : σ1 m = O := by rw [hs1, jk_row_ne _ _ (by omega), jk_row_ne _ _ (by omega)]; exact (md_lp_ne _ _ _ _ ⟨by omega, by omega, by omega, by omega, by omega, by omega⟩).trans ho
          have hs22 : σ1 (m + 22) = (md_sgn g (md_T g) l) := by rw [hs1, jk_row_ne _ _ (by omega), jk_row_ne _ _ (by omega)]; exact md_lp_sg σ m g l
          have hp24 : σ1 (m + 24) = (md_parts g (md_sgn g (md_T g) l)) := by rw [hs1, jk_row_ne _ _ (by omega), jk_row_same]
          refine jk_iload (q := 61) dX13_shares_59 rfl rfl ?_
          refine jk_aload_n (q := 62) dX13_shares_61 rfl rfl ?_
          refine jk_getA (q := 65) (k := 13) 0 0 rfl (by first | exact hm.1 | exact hm.2.1 _ _ rfl | assumption) (by first | exact hm.2.2 _ _ rfl | assumption) rfl rfl jw_1848 dX13_shares_62 rfl ?_
          refine jk_iconst (q := 66) dX13_shares_65 rfl ?_
          refine jk_ialdR (q := 67) (by first | exact hm.1 | exact hm.2.1 _ _ rfl | assumption) (by first | exact jk_row_same _ _ _ | exact hg1 | exact ho1 | exact hs22 | exact hp24 | (rewrite [jk_row_ne _ _ (by omega)]; first | exact jk_row_same _ _ _ | exact hg1 | exact ho1 | exact hs22 | exact hp24 | (rewrite [jk_row_ne _ _ (by omega)]; first | exact jk_row_same _ _ _ | exact hg1 | exact ho1 | exact hs22 | exact hp24 | (rewrite [jk_row_ne _ _ (by omega)]; first | exact jk_row_same _ _ _ | exact hg1 | exact ho1 | exact hs22 | exact hp24 | (rewrite [jk_row_ne _ _ (by omega)]; first | exact hg1 | exact ho1 | exact hs22 | exact hp24 | rfl))))) (by first | decide | omega | exact jB_01 _) dX13_shares_66 rfl ?_
          rw [show md_shk g (md_sgn g (md_T g) l) (md_parts g (md_sgn g (md_T g) l)) (md_dir (md_err g (md_sgn g (md_T g) l))) (k59 : Int) 1 = g 1 from if_neg (by omega)]
          refine jk_icmp_ge (q := 108) (q2 := 70) dX13_shares_67 rfl rfl (by first | decide | omega | exact jB_01 _) (by first | decide | omega | exact jB_01 _) (fun h4 => ?_) (fun h4 => ?_)
          · refine jk_aload_n (q := 109) dX13_shares_108 rfl rfl ?_
            refine jk_iload_n (q := 110) dX13_shares_109 rfl rfl ?_
            refine jk_cV1p (q := 113) (c_X13_done hm ho1) jm_X13_done jw_1941 rfl (by first | exact hm.1 | exact hm.2.1 _ _ rfl | assumption) rfl rfl rfl dX13_shares_110 rfl ?_
            exact jk_iret rfl dX13_shares_113 (by exact md_sq (by unfold md_shares; rw [if_neg hnw, if_neg (by omega)]) (by unfold md_shS; rw [if_neg hnw, if_neg (by omega)]) rfl (by rw [hs1, show ((k59 : Nat) : Int) = g 1 by omega]; rfl))
          · refine jk_aload_n (q := 71) dX13_shares_70 rfl rfl ?_
            refine jk_getA (q := 74) (k := 13) 0 0 rfl (by first | exact hm.1 | exact hm.2.1 _ _ rfl | assumption) (by first | exact hm.2.2 _ _ rfl | assumption) rfl rfl jw_1848 dX13_shares_71 rfl ?_
            refine jk_sipush (q := 77) (y := 136) dX13_shares_74 rfl (by decide) ?_
            refine jk_iload (q := 79) dX13_shares_77 rfl rfl ?_
            refine jk_iadd (q := 80) dX13_shares_79 rfl ?_
            refine jk_dup2 (q := 81) dX13_shares_80 rfl rfl rfl ?_
            refine jk_ialdR (q := 82) (by first | exact hm.1 | exact hm.2.1 _ _ rfl | assumption) (by first | exact jk_row_same _ _ _ | exact hg1 | exact ho1 | exact hs22 | exact hp24 | (rewrite [jk_row_ne _ _ (by omega)]; first | exact jk_row_same _ _ _ | exact hg1 | exact ho1 | exact hs22 | exact hp24 | (rewrite [jk_row_ne _ _ (by omega)]; first | exact jk_row_same _ _ _ | exact hg1 | exact ho1 | exact hs22 | exact hp24 | (rewrite [jk_row_ne _ _ (by omega)]; first | exact jk_row_same _ _ _ | exact hg1 | exact ho1 | exact hs22 | exact hp24 | (rewrite [jk_row_ne _ _ (by omega)]; first | exact hg1 | exact ho1 | exact hs22 | exact hp24 | rfl))))) (by first | decide | omega | exact jB_01 _) dX13_shares_81 rfl ?_
            refine jk_iload (q := 84) dX13_shares_82 rfl rfl ?_
            refine jk_aload_n (q := 85) dX13_shares_84 rfl rfl ?_
            refine jk_getA (q := 88) (k := 13) 17 17 rfl (by first | exact hm.1 | exact hm.2.1 _ _ rfl | assumption) (by first | exact hm.2.2 _ _ rfl | assumption) rfl rfl jw_1865 dX13_shares_85 rfl ?_
            refine jk_iload (q := 90) dX13_shares_88 rfl rfl ?_
            refine jk_ialdR (q := 91) (by first | exact hm.1 | exact hm.2.1 _ _ rfl | assumption) (by first | exact jk_row_same _ _ _ | exact hg1 | exact ho1 | exact hs22 | exact hp24 | (rewrite [jk_row_ne _ _ (by omega)]; first | exact jk_row_same _ _ _ | exact hg1 | exact ho1 | exact hs22 | exact hp24 | (rewrite [jk_row_ne _ _ (by omega)]; first | exact jk_row_same _ _ _ | exact hg1 | exact ho1 | exact hs22 | exact hp24 | (rewrite [jk_row_ne _ _ (by omega)]; first | exact jk_row_same _ _ _ | exact hg1 | exact ho1 | exact hs22 | exact hp24 | (rewrite [jk_row_ne _ _ (by omega)]; first | exact hg1 | exact ho1 | exact hs22 | exact hp24 | rfl))))) (by first | decide | omega | exact jB_01 _) dX13_shares_90 rfl ?_
            refine jk_imul (q := 92) dX13_shares_91 rfl ?_
            refine jk_aload_n (q := 93) dX13_shares_92 rfl rfl ?_
            refine jk_getA (q := 96) (k := 13) 18 18 rfl (by first | exact hm.1 | exact hm.2.1 _ _ rfl | assumption) (by first | exact hm.2.2 _ _ rfl | assumption) rfl rfl jw_1866 dX13_shares_93 rfl ?_
            refine jk_iload (q := 98) dX13_shares_96 rfl rfl ?_
            refine jk_ialdR (q := 99) (by first | exact hm.1 | exact hm.2.1 _ _ rfl | assumption) (by first | exact jk_row_same _ _ _ | exact hg1 | exact ho1 | exact hs22 | exact hp24 | (rewrite [jk_row_ne _ _ (by omega)]; first | exact jk_row_same _ _ _ | exact hg1 | exact ho1 | exact hs22 | exact hp24 | (rewrite [jk_row_ne _ _ (by omega)]; first | exact jk_row_same _ _ _ | exact hg1 | exact ho1 | exact hs22 | exact hp24 | (rewrite [jk_row_ne _ _ (by omega)]; first | exact jk_row_same _ _ _ | exact hg1 | exact ho1 | exact hs22 | exact hp24 | (rewrite [jk_row_ne _ _ (by omega)]; first | exact hg1 | exact ho1 | exact hs22 | exact hp24 | rfl))))) (by first | decide | omega | exact jB_01 _) dX13_shares_98 rfl ?_
            refine jk_imul (q := 100) dX13_shares_99 rfl ?_
            refine jk_iadd (q := 101) dX13_shares_100 rfl ?_
            refine jk_iastR (q := 102) (by first | exact hm.1 | exact hm.2.1 _ _ rfl | assumption) (by first | exact jk_row_same _ _ _ | exact hg1 | exact ho1 | exact hs22 | exact hp24 | (rewrite [jk_row_ne _ _ (by omega)]; first | exact jk_row_same _ _ _ | exact hg1 | exact ho1 | exact hs22 | exact hp24 | (rewrite [jk_row_ne _ _ (by omega)]; first | exact jk_row_same _ _ _ | exact hg1 | exact ho1 | exact hs22 | exact hp24 | (rewrite [jk_row_ne _ _ (by omega)]; first | exact jk_row_same _ _ _ | exact hg1 | exact ho1 | exact hs22 | exact hp24 | (rewrite [jk_row_ne _ _ (by omega)]; first | exact hg1 | exact ho1 | exact hs22 | exact hp24 | rfl))))) (by first | decide | omega | exact jB_01 _) dX13_shares_101 rfl ?_
            refine jk_iinc5 (q := 105) dX13_shares_102 rfl rfl rfl ?_
            refine jk_goto (q := 59) dX13_shares_105 rfl ?_
            refine ih59 (by omega) _ ?_
            rw [hs1, jk_row_row, md_shk_S]
        refine jk_convl (L59 0 (Nat.zero_le _) (jk_row (md_lp σ m g l) (m + 24) (md_parts g (md_sgn g (md_T g) l))) (by rw [md_shk_0]; exact (jk_row_id ((jk_row_ne _ _ (by omega)).trans ((md_lp_ne _ _ _ _ ⟨by omega, by omega, by omega, by omega, by omega, by omega⟩).trans hg))).symm)) (jk_loc rfl (jk_loc rfl (jk_loc rfl (jk_loc rfl (jk_loc (jk_li ?_) rfl)))))
        unfold md_dir
        first | rw [if_pos (by omega)] | rw [if_neg (by omega)]
      · refine jk_iconst (q := 50) dX13_shares_49 rfl ?_
        refine jk_goto (q := 54) dX13_shares_50 rfl ?_
        refine jk_istore4 (q := 56) dX13_shares_54 rfl rfl rfl ?_
        refine jk_iconst (q := 57) dX13_shares_56 rfl ?_
        refine jk_istore5 (q := 59) dX13_shares_57 rfl rfl rfl ?_
        have L59 : ∀ k59 : Nat, k59 ≤ (g 1).toNat → ∀ (σ1 : jk_I), (hs1 : σ1 = jk_row (jk_row (md_lp σ m g l) (m + 24) (md_parts g (md_sgn g (md_T g) l))) (m + 2) (md_shk g (md_sgn g (md_T g) l) (md_parts g (md_sgn g (md_T g) l)) (md_dir (md_err g (md_sgn g (md_T g) l))) (k59 : Int))) → jk_J G mX13_shares 59 [some (.ref m), some (jI l), some (jI (md_why g l)), some (jI (md_err g (md_sgn g (md_T g) l))), some (jI (md_dir (md_err g (md_sgn g (md_T g) l)))), some (jI (k59 : Int))] [] n t σ1 ρ 0 0 (jk_q (some (jI (md_shares g l).2.1)) n t (md_res (md_shS σ m g l) m O (md_shares g l)) ρ) jk_no := by
          refine jk_loop _ (fun k59 hk59 ih59 => ?_)
          intro σ1 hs1
          have hg1 : σ1 (m + 2) = md_shk g (md_sgn g (md_T g) l) (md_parts g (md_sgn g (md_T g) l)) (md_dir (md_err g (md_sgn g (md_T g) l))) (k59 : Int) := by rw [hs1, jk_row_same]
          have ho1 : σ1 m = O := by rw [hs1, jk_row_ne _ _ (by omega), jk_row_ne _ _ (by omega)]; exact (md_lp_ne _ _ _ _ ⟨by omega, by omega, by omega, by omega, by omega, by omega⟩).trans ho
          have hs22 : σ1 (m + 22) = (md_sgn g (md_T g) l) := by rw [hs1, jk_row_ne _ _ (by omega), jk_row_ne _ _ (by omega)]; exact md_lp_sg σ m g l
          have hp24 : σ1 (m + 24) = (md_parts g (md_sgn g (md_T g) l)) := by rw [hs1, jk_row_ne _ _ (by omega), jk_row_same]
          refine jk_iload (q := 61) dX13_shares_59 rfl rfl ?_
          refine jk_aload_n (q := 62) dX13_shares_61 rfl rfl ?_
          refine jk_getA (q := 65) (k := 13) 0 0 rfl (by first | exact hm.1 | exact hm.2.1 _ _ rfl | assumption) (by first | exact hm.2.2 _ _ rfl | assumption) rfl rfl jw_1848 dX13_shares_62 rfl ?_
          refine jk_iconst (q := 66) dX13_shares_65 rfl ?_
          refine jk_ialdR (q := 67) (by first | exact hm.1 | exact hm.2.1 _ _ rfl | assumption) (by first | exact jk_row_same _ _ _ | exact hg1 | exact ho1 | exact hs22 | exact hp24 | (rewrite [jk_row_ne _ _ (by omega)]; first | exact jk_row_same _ _ _ | exact hg1 | exact ho1 | exact hs22 | exact hp24 | (rewrite [jk_row_ne _ _ (by omega)]; first | exact jk_row_same _ _ _ | exact hg1 | exact ho1 | exact hs22 | exact hp24 | (rewrite [jk_row_ne _ _ (by omega)]; first | exact jk_row_same _ _ _ | exact hg1 | exact ho1 | exact hs22 | exact hp24 | (rewrite [jk_row_ne _ _ (by omega)]; first | exact hg1 | exact ho1 | exact hs22 | exact hp24 | rfl))))) (by first | decide | omega | exact jB_01 _) dX13_shares_66 rfl ?_
          rw [show md_shk g (md_sgn g (md_T g) l) (md_parts g (md_sgn g (md_T g) l)) (md_dir (md_err g (md_sgn g (md_T g) l))) (k59 : Int) 1 = g 1 from if_neg (by omega)]
          refine jk_icmp_ge (q := 108) (q2 := 70) dX13_shares_67 rfl rfl (by first | decide | omega | exact jB_01 _) (by first | decide | omega | exact jB_01 _) (fun h5 => ?_) (fun h5 => ?_)
          · refine jk_aload_n (q := 109) dX13_shares_108 rfl rfl ?_
            refine jk_iload_n (q := 110) dX13_shares_109 rfl rfl ?_
            refine jk_cV1p (q := 113) (c_X13_done hm ho1) jm_X13_done jw_1941 rfl (by first | exact hm.1 | exact hm.2.1 _ _ rfl | assumption) rfl rfl rfl dX13_shares_110 rfl ?_
            exact jk_iret rfl dX13_shares_113 (by exact md_sq (by unfold md_shares; rw [if_neg hnw, if_neg (by omega)]) (by unfold md_shS; rw [if_neg hnw, if_neg (by omega)]) rfl (by rw [hs1, show ((k59 : Nat) : Int) = g 1 by omega]; rfl))
          · refine jk_aload_n (q := 71) dX13_shares_70 rfl rfl ?_
            refine jk_getA (q := 74) (k := 13) 0 0 rfl (by first | exact hm.1 | exact hm.2.1 _ _ rfl | assumption) (by first | exact hm.2.2 _ _ rfl | assumption) rfl rfl jw_1848 dX13_shares_71 rfl ?_
            refine jk_sipush (q := 77) (y := 136) dX13_shares_74 rfl (by decide) ?_
            refine jk_iload (q := 79) dX13_shares_77 rfl rfl ?_
            refine jk_iadd (q := 80) dX13_shares_79 rfl ?_
            refine jk_dup2 (q := 81) dX13_shares_80 rfl rfl rfl ?_
            refine jk_ialdR (q := 82) (by first | exact hm.1 | exact hm.2.1 _ _ rfl | assumption) (by first | exact jk_row_same _ _ _ | exact hg1 | exact ho1 | exact hs22 | exact hp24 | (rewrite [jk_row_ne _ _ (by omega)]; first | exact jk_row_same _ _ _ | exact hg1 | exact ho1 | exact hs22 | exact hp24 | (rewrite [jk_row_ne _ _ (by omega)]; first | exact jk_row_same _ _ _ | exact hg1 | exact ho1 | exact hs22 | exact hp24 | (rewrite [jk_row_ne _ _ (by omega)]; first | exact jk_row_same _ _ _ | exact hg1 | exact ho1 | exact hs22 | exact hp24 | (rewrite [jk_row_ne _ _ (by omega)]; first | exact hg1 | exact ho1 | exact hs22 | exact hp24 | rfl))))) (by first | decide | omega | exact jB_01 _) dX13_shares_81 rfl ?_
            refine jk_iload (q := 84) dX13_shares_82 rfl rfl ?_
            refine jk_aload_n (q := 85) dX13_shares_84 rfl rfl ?_
            refine jk_getA (q := 88) (k := 13) 17 17 rfl (by first | exact hm.1 | exact hm.2.1 _ _ rfl | assumption) (by first | exact hm.2.2 _ _ rfl | assumption) rfl rfl jw_1865 dX13_shares_85 rfl ?_
            refine jk_iload (q := 90) dX13_shares_88 rfl rfl ?_
            refine jk_ialdR (q := 91) (by first | exact hm.1 | exact hm.2.1 _ _ rfl | assumption) (by first | exact jk_row_same _ _ _ | exact hg1 | exact ho1 | exact hs22 | exact hp24 | (rewrite [jk_row_ne _ _ (by omega)]; first | exact jk_row_same _ _ _ | exact hg1 | exact ho1 | exact hs22 | exact hp24 | (rewrite [jk_row_ne _ _ (by omega)]; first | exact jk_row_same _ _ _ | exact hg1 | exact ho1 | exact hs22 | exact hp24 | (rewrite [jk_row_ne _ _ (by omega)]; first | exact jk_row_same _ _ _ | exact hg1 | exact ho1 | exact hs22 | exact hp24 | (rewrite [jk_row_ne _ _ (by omega)]; first | exact hg1 | exact ho1 | exact hs22 | exact hp24 | rfl))))) (by first | decide | omega | exact jB_01 _) dX13_shares_90 rfl ?_
            refine jk_imul (q := 92) dX13_shares_91 rfl ?_
            refine jk_aload_n (q := 93) dX13_shares_92 rfl rfl ?_
            refine jk_getA (q := 96) (k := 13) 18 18 rfl (by first | exact hm.1 | exact hm.2.1 _ _ rfl | assumption) (by first | exact hm.2.2 _ _ rfl | assumption) rfl rfl jw_1866 dX13_shares_93 rfl ?_
            refine jk_iload (q := 98) dX13_shares_96 rfl rfl ?_
            refine jk_ialdR (q := 99) (by first | exact hm.1 | exact hm.2.1 _ _ rfl | assumption) (by first | exact jk_row_same _ _ _ | exact hg1 | exact ho1 | exact hs22 | exact hp24 | (rewrite [jk_row_ne _ _ (by omega)]; first | exact jk_row_same _ _ _ | exact hg1 | exact ho1 | exact hs22 | exact hp24 | (rewrite [jk_row_ne _ _ (by omega)]; first | exact jk_row_same _ _ _ | exact hg1 | exact ho1 | exact hs22 | exact hp24 | (rewrite [jk_row_ne _ _ (by omega)]; first | exact jk_row_same _ _ _ | exact hg1 | exact ho1 | exact hs22 | exact hp24 | (rewrite [jk_row_ne _ _ (by omega)]; first | exact hg1 | exact ho1 | exact hs22 | exact hp24 | rfl))))) (by first | decide | omega | exact jB_01 _) dX13_shares_98 rfl ?_
            refine jk_imul (q := 100) dX13_shares_99 rfl ?_
            refine jk_iadd (q := 101) dX13_shares_100 rfl ?_
            refine jk_iastR (q := 102) (by first | exact hm.1 | exact hm.2.1 _ _ rfl | assumption) (by first | exact jk_row_same _ _ _ | exact hg1 | exact ho1 | exact hs22 | exact hp24 | (rewrite [jk_row_ne _ _ (by omega)]; first | exact jk_row_same _ _ _ | exact hg1 | exact ho1 | exact hs22 | exact hp24 | (rewrite [jk_row_ne _ _ (by omega)]; first | exact jk_row_same _ _ _ | exact hg1 | exact ho1 | exact hs22 | exact hp24 | (rewrite [jk_row_ne _ _ (by omega)]; first | exact jk_row_same _ _ _ | exact hg1 | exact ho1 | exact hs22 | exact hp24 | (rewrite [jk_row_ne _ _ (by omega)]; first | exact hg1 | exact ho1 | exact hs22 | exact hp24 | rfl))))) (by first | decide | omega | exact jB_01 _) dX13_shares_101 rfl ?_
            refine jk_iinc5 (q := 105) dX13_shares_102 rfl rfl rfl ?_
            refine jk_goto (q := 59) dX13_shares_105 rfl ?_
            refine ih59 (by omega) _ ?_
            rw [hs1, jk_row_row, md_shk_S]
        refine jk_convl (L59 0 (Nat.zero_le _) (jk_row (md_lp σ m g l) (m + 24) (md_parts g (md_sgn g (md_T g) l))) (by rw [md_shk_0]; exact (jk_row_id ((jk_row_ne _ _ (by omega)).trans ((md_lp_ne _ _ _ _ ⟨by omega, by omega, by omega, by omega, by omega, by omega⟩).trans hg))).symm)) (jk_loc rfl (jk_loc rfl (jk_loc rfl (jk_loc rfl (jk_loc (jk_li ?_) rfl)))))
        unfold md_dir
        first | rw [if_pos (by omega)] | rw [if_neg (by omega)]
    · refine jk_aload_n (q := 36) dX13_shares_35 rfl rfl ?_
      refine jk_iconst (q := 37) dX13_shares_36 rfl ?_
      refine jk_cV1p (q := 40) (c_X13_fails hm ((md_lp_ne _ _ _ _ ⟨by omega, by omega, by omega, by omega, by omega, by omega⟩).trans ho)) jm_X13_fails jw_1937 rfl (by first | exact hm.1 | exact hm.2.1 _ _ rfl | assumption) rfl rfl rfl dX13_shares_37 rfl ?_
      exact jk_iret rfl dX13_shares_40 (by exact md_sq (by unfold md_shares; rw [if_neg hnw, if_pos (by omega)]) (by unfold md_shS; rw [if_neg hnw, if_pos (by omega)]) rfl (by unfold md_res md_th; rw [jk_row_id (f := md_lp σ m g l) (a := m + 2) (x := g) ((md_lp_ne _ _ _ _ ⟨by omega, by omega, by omega, by omega, by omega, by omega⟩).trans hg)]))
  · refine jk_aload_n (q := 11) dX13_shares_10 rfl rfl ?_
    refine jk_iload_n (q := 12) dX13_shares_11 rfl rfl ?_
    refine jk_cV1p (q := 15) (c_X13_fails hm ((md_whyS_ne _ _ _ _ ⟨by omega, by omega, by omega, by omega, by omega, by omega⟩).trans ho)) jm_X13_fails jw_1937 rfl (by first | exact hm.1 | exact hm.2.1 _ _ rfl | assumption) rfl rfl rfl dX13_shares_12 rfl ?_
    exact jk_iret rfl dX13_shares_15 (by exact md_sq (by unfold md_shares; rw [if_pos (by omega)]) (by unfold md_shS; rw [if_pos (by omega)]) rfl (by unfold md_res md_th; rw [jk_row_id (f := md_whyS σ m g l) (a := m + 2) (x := g) ((md_whyS_ne _ _ _ _ ⟨by omega, by omega, by omega, by omega, by omega, by omega⟩).trans hg)]))
end MD11
