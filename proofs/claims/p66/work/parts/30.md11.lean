section MD11
/-- what holds of the lines that exist -/
def md_inw (g : Int → Int) : Prop := ∀ l, 0 ≤ l ∧ l < g 1 → 1 ≤ g (56 + l) ∧ g (24 + l) < g 0 ∧ g (40 + l) < g 0 ∧ g (24 + l) ≠ g (40 + l)
theorem md_lp_ne (σ : jk_I) (m : Nat) (g : Int → Int) (l : Int) {a : Nat} (h : a ≠ m + 14 ∧ a ≠ m + 16 ∧ a ≠ m + 18 ∧ a ≠ m + 20 ∧ a ≠ m + 22 ∧ a ≠ m + 26) : md_lp σ m g l a = σ a := by
  unfold md_lp
  rw [jk_row_ne _ _ h.2.2.2.2.1, jk_row_ne _ _ h.2.2.2.1, jk_row_ne _ _ h.2.2.2.2.2, md_gr_ne _ _ _ ⟨h.1, h.2.1, h.2.2.1, h.2.2.2.1⟩]
theorem md_lp_sg (σ : jk_I) (m : Nat) (g : Int → Int) (l : Int) : md_lp σ m g l (m + 22) = md_sgn g (md_T g) l := jk_row_same _ _ _
def md_sb (S : Int → Int) : Prop := ∀ l, -1 ≤ S l ∧ S l ≤ 1
theorem md_stp_sb {g rb : Int → Int} {s : Int × (Int → Int)} (h : md_sb s.2) : md_sb (md_stp g rb s).2 := fun l => by
  show -1 ≤ jk_set s.2 (rb s.1) (if _ then _ else _) l ∧ jk_set s.2 (rb s.1) (if _ then _ else _) l ≤ 1
  unfold jk_set
  split
  · split <;> decide
  · exact h l
theorem md_cw_sb {g rb : Int → Int} {q : Int} : ∀ (f : Nat) {s : Int × (Int → Int)}, md_sb s.2 → md_sb (md_cw g rb q f s).2
  | 0, _, h => h
  | f + 1, s, h => by
    unfold md_cw
    split
    · exact h
    · exact md_cw_sb f (md_stp_sb h)
theorem md_sgn_sb (g T : Int → Int) (l : Int) : md_sb (md_sgn g T l) := fun j => by
  unfold md_sgn jk_set
  split
  · decide
  · exact md_cw_sb 10 (s := (g (40 + l), fun _ => 0)) (fun _ => by show -1 ≤ (0 : Int) ∧ (0 : Int) ≤ 1; decide) j
theorem md_wlk_z {g rb : Int → Int} {p0 q : Int} {J : Nat} (h : md_ok g rb p0 q J) : ∀ i : Nat, i ≤ J → md_zf 16 (md_wlk g rb p0 i).2
  | 0, _ => fun _ _ => rfl
  | i + 1, hi => md_zf_set (md_wlk_z h i (by omega)) (h.2.2 i (by omega)).2.2
theorem md_sgn_z {g T : Int → Int} {l : Int} (hl : 0 ≤ l ∧ l < 16) {J : Nat} (h : md_ok g (md_reach g T (g (24 + l))).2 (g (40 + l)) (g (24 + l)) J) : md_zf 16 (md_sgn g T l) := by
  unfold md_sgn
  have h9 := md_cw_eq h J 0 (10 - J) (by omega)
  rw [show J + (10 - J) = 10 by have := h.1; omega] at h9
  rw [show (g (40 + l), fun _ => (0 : Int)) = md_wlk g (md_reach g T (g (24 + l))).2 (g (40 + l)) 0 from rfl, h9]
  exact md_zf_set (md_wlk_z h J (Nat.le_refl _)) hl
theorem jk_sum_ge {f : Int → Int} {i : Int} : ∀ k : Nat, (∀ j, 0 ≤ j → j < (k : Int) → 0 ≤ f j) → 0 ≤ i → i < (k : Int) → f i ≤ jk_sum f k
  | 0, _, h1, h2 => by omega
  | k + 1, h, h1, h2 => by
    show f i ≤ jk_sum f k + f (k : Int)
    by_cases hk : i = (k : Int)
    · subst hk
      have := jk_sum_bd2 (f := f) (a := 0) (b := 0)
      have h3 : 0 ≤ jk_sum f k := by
        clear this h1 h2
        induction k with
        | zero => exact Int.le_refl _
        | succ k ih => show 0 ≤ jk_sum f k + f (k : Int); have := ih (fun j a b => h j a (by omega)); have := h (k : Int) (by omega) (by omega); omega
      omega
    · have := jk_sum_ge (f := f) k (fun j a b => h j a (by omega)) h1 (by omega)
      have := h (k : Int) (by omega) (by omega)
      omega
theorem md_len_pos {B : Int} {g : Int → Int} (hi : md_inv B g) (hw : md_inw g) {T : Int → Int} {l : Int} (hl : 0 ≤ l ∧ l < g 1) : 0 < md_len g (md_sgn g T l) := by
  unfold md_len
  have hg1 := hi.2.1
  have h := jk_sum_ge (f := fun j => if md_sgn g T l j = 0 then 0 else g (56 + j)) (i := l) (g 1).toNat (fun j a b => by
    show 0 ≤ (if md_sgn g T l j = 0 then 0 else g (56 + j))
    have := (md_inv_ln hi (l := j) ⟨a, by omega⟩).2.2.1
    split <;> omega) hl.1 (by omega)
  have e : (if md_sgn g T l l = 0 then 0 else g (56 + l)) = g (56 + l) := if_neg (by unfold md_sgn; rw [jk_set_at]; decide)
  rw [e] at h
  have := (hw l hl).1
  omega
def md_shk (g S P : Int → Int) (d k : Int) : Int → Int := fun p => if 136 ≤ p ∧ p < 136 + k then g p + d * S (p - 136) * P (p - 136) else g p
theorem md_shk_S (g S P : Int → Int) (d : Int) (k : Nat) : jk_set (md_shk g S P d (k : Int)) (136 + (k : Int)) (md_shk g S P d (k : Int) (136 + (k : Int)) + d * S (k : Int) * P (k : Int)) = md_shk g S P d ((k + 1 : Nat) : Int) := by
  funext p
  unfold jk_set md_shk
  by_cases hp : p = 136 + (k : Int)
  · subst hp; rw [if_pos rfl, if_neg (by omega), if_pos (by omega), show 136 + (k : Int) - 136 = (k : Int) by omega]
  · rw [if_neg hp]
    by_cases h : 136 ≤ p ∧ p < 136 + (k : Int)
    · rw [if_pos h, if_pos (by omega)]
    · rw [if_neg h, if_neg (by omega)]
theorem md_shk_0 (g S P : Int → Int) (d : Int) : md_shk g S P d ((0 : Nat) : Int) = g := by funext p; unfold md_shk; rw [if_neg (by omega)]
def md_dir (e : Int) : Int := if 0 < e then -1 else 1
def md_shares (g : Int → Int) (l : Int) : md_R3 :=
  if 0 < md_why g l then (md_why g l, 0, g) else
  if md_tol (md_len g (md_sgn g (md_T g) l)) < md_abs (md_err g (md_sgn g (md_T g) l)) then (3, 0, g) else
  (0, md_err g (md_sgn g (md_T g) l), md_shk g (md_sgn g (md_T g) l) (md_parts g (md_sgn g (md_T g) l)) (md_dir (md_err g (md_sgn g (md_T g) l))) (g 1))
def md_shS (σ : jk_I) (m : Nat) (g : Int → Int) (l : Int) : jk_I :=
  if 0 < md_why g l then md_whyS σ m g l else
  if md_tol (md_len g (md_sgn g (md_T g) l)) < md_abs (md_err g (md_sgn g (md_T g) l)) then md_lp σ m g l else jk_row (md_lp σ m g l) (m + 24) (md_parts g (md_sgn g (md_T g) l))
theorem md_why_bd (g : Int → Int) (l : Int) : 0 ≤ md_why g l ∧ md_why g l ≤ 2 := by unfold md_why; (repeat' split) <;> decide
theorem md_whyS_ne (σ : jk_I) (m : Nat) (g : Int → Int) (l : Int) {a : Nat} (h : a ≠ m + 14 ∧ a ≠ m + 16 ∧ a ≠ m + 18 ∧ a ≠ m + 20 ∧ a ≠ m + 22 ∧ a ≠ m + 26) : md_whyS σ m g l a = σ a := by
  unfold md_whyS
  split
  · rfl
  · split
    · exact md_gr_ne _ _ _ ⟨h.1, h.2.1, h.2.2.1, h.2.2.2.1⟩
    · exact md_lp_ne _ _ _ _ h
theorem md_why0 {σ : jk_I} {m : Nat} {g : Int → Int} {l : Int} (h : ¬ 0 < md_why g l) : md_whyS σ m g l = md_lp σ m g l ∧ md_in l 0 (g 1 - 1) = true ∧ md_clo g (md_T g) l = true := by
  unfold md_why at h
  unfold md_whyS
  cases h1 : md_in l 0 (g 1 - 1) <;> rw [h1] at h
  · exact absurd (show (0 : Int) < 1 by decide) h
  · cases h2 : md_clo g (md_T g) l <;> rw [h2] at h
    · exact absurd (show (0 : Int) < 2 by decide) h
    · exact ⟨rfl, rfl, rfl⟩
theorem md_sq {n : Nat} {t : jk_T} {σ σ' : jk_I} {ρ : jk_P} {m : Nat} {O : Int → Int} {g : Int → Int} {l v : Int} {r : md_R3} {σ2 : jk_I} (hr : md_shares g l = r) (hS : md_shS σ m g l = σ2) (hv : r.2.1 = v) (hs : σ' = md_res σ2 m O r) : jk_q (some (jI (md_shares g l).2.1)) n t (md_res (md_shS σ m g l) m O (md_shares g l)) ρ (some (jI v)) n t σ' ρ := by subst hr hS hv hs; exact jk_qr
end MD11
