section B2
theorem md_p10_pos : ∀ k, 1 ≤ md_p10 k
  | 0 => Int.le_refl _
  | k + 1 => by have := md_p10_pos k; show 1 ≤ 10 * md_p10 k; omega
theorem md_p10_mono {i j : Nat} (h : i ≤ j) : md_p10 i ≤ md_p10 j := by
  induction h with
  | refl => exact Int.le_refl _
  | step _ ih => rename_i m _; have := md_p10_pos m; show md_p10 i ≤ 10 * md_p10 m; omega
theorem md_top_lt : ∀ (j : Nat) (n : Int), n < md_p10 (j + 1) → n < md_p10 (md_top j n + 1)
  | 0, n, h => h
  | j + 1, n, h => by
    unfold md_top
    split
    · rename_i h2; exact md_top_lt j n h2
    · exact h
theorem md_top_gt : ∀ (j : Nat) (n : Int), 0 < md_top j n → md_p10 (md_top j n) ≤ n
  | 0, n, h => absurd h (Nat.lt_irrefl 0)
  | j + 1, n, h => by
    unfold md_top at h ⊢
    by_cases h2 : n < md_p10 (j + 1)
    · rw [if_pos h2] at h ⊢; exact md_top_gt j n h
    · rw [if_neg h2]; omega
/-- how many digits -/
def dg_n (A : Int) : Nat := md_top 7 A + 1
theorem dg_n_le (A : Int) : 1 ≤ dg_n A ∧ dg_n A ≤ 8 := by have := md_top_le 7 A; unfold dg_n; omega
theorem dg_n_lt {A : Int} (h : A < 100000000) : A < md_p10 (dg_n A) := md_top_lt 7 A h
theorem dg_n_gt {A : Int} {k : Nat} (h1 : 1 ≤ k) (h : k < dg_n A) : md_p10 k ≤ A := by
  unfold dg_n at h
  have h2 := md_top_gt 7 A (by omega)
  have h3 := md_p10_mono (show k ≤ md_top 7 A by omega)
  omega
theorem dg_n_eq {A : Int} {k : Nat} (hk : 1 ≤ k) (hA : A < 100000000) (h1 : A < md_p10 k) (h2 : 2 ≤ k → md_p10 (k - 1) ≤ A) : dg_n A = k := by
  rcases Nat.lt_trichotomy (dg_n A) k with h | h | h
  · have h3 := dg_n_lt hA
    have h4 := dg_n_le A
    have h5 := h2 (by omega)
    have h6 := md_p10_mono (show dg_n A ≤ k - 1 by omega)
    omega
  · exact h
  · have := dg_n_gt hk h; omega
theorem md_dg_get : ∀ (k : Nat) (n : Int) (i : Nat), i < k → (md_dg k n).getD i 0 = 48 + n / md_p10 (k - 1 - i) % 10
  | 0, _, _, h => absurd h (Nat.not_lt_zero _)
  | k + 1, n, 0, _ => rfl
  | k + 1, n, i + 1, h => by
    show (md_dg k n).getD i 0 = _
    rw [md_dg_get k n i (by omega), show k - 1 - i = k + 1 - 1 - (i + 1) by omega]
/-- the digits written from the right -/
def dg_row (A x : Int) (m : Nat) (r : Int → Int) : Int → Int := fun p => if x - (m : Int) ≤ p ∧ p < x then 48 + A / md_p10 (x - 1 - p).toNat % 10 else r p
theorem dg_row0 (A x : Int) (r : Int → Int) : dg_row A x 0 r = r := by funext p; unfold dg_row; rw [if_neg (by omega)]
theorem dg_rowS (A x : Int) (m : Nat) (r : Int → Int) : jk_set (dg_row A x m r) (x - (m : Int) - 1) (48 + A / md_p10 m % 10) = dg_row A x (m + 1) r := by
  funext p
  unfold dg_row jk_set
  by_cases h : p = x - (m : Int) - 1
  · rw [if_pos h, if_pos (by omega), show (x - 1 - p).toNat = m by omega]
  · rw [if_neg h]
    dsimp only
    by_cases h2 : x - (m : Int) ≤ p ∧ p < x
    · rw [if_pos h2, if_pos (by omega)]
    · rw [if_neg h2, if_neg (by omega)]
theorem dg_ones (B : Int) (h : 0 ≤ B) : 48 + (B - 100 * (B / 100)) % 10 = 48 + B % 10 := by omega
theorem dg_tens (B : Int) (h : 0 ≤ B) : 48 + (B - 100 * (B / 100)) / 10 = 48 + B / 10 % 10 := by omega
theorem dg_div (A : Int) (m : Nat) : A / md_p10 m / 10 = A / md_p10 (m + 1) := by
  rw [Int.ediv_ediv_of_nonneg (by have := md_p10_pos m; omega)]
  show A / (md_p10 m * 10) = A / (10 * md_p10 m)
  rw [Int.mul_comm]
theorem dg_div2 (A : Int) (m : Nat) : A / md_p10 m / 100 = A / md_p10 (m + 2) := by
  rw [show A / md_p10 (m + 2) = A / md_p10 m / 10 / 10 by rw [dg_div, dg_div]]
  omega
theorem dg_lt {A : Int} {m : Nat} {c : Nat} (h : A / md_p10 m < md_p10 c) : A < md_p10 (m + c) := by
  have e : md_p10 (m + c) = md_p10 m * md_p10 c := by
    clear h
    induction c with
    | zero => show md_p10 m = md_p10 m * 1; omega
    | succ c ih =>
      show 10 * md_p10 (m + c) = md_p10 m * (10 * md_p10 c)
      rw [ih, Int.mul_left_comm]
  rw [e, Int.mul_comm]
  exact (Int.ediv_lt_iff_lt_mul (by have := md_p10_pos m; omega)).mp h
theorem dg_ge {A : Int} {m : Nat} (h : 1 ≤ A / md_p10 m) : md_p10 m ≤ A := by
  have h2 := (Int.le_ediv_iff_mul_le (c := md_p10 m) (by have := md_p10_pos m; omega)).mp h
  omega
/-- the row behind a number's signs -/
def dg_out (v x : Int) (r : Int → Int) : Int → Int := if v < 0 then jk_set (dg_row (md_abs v) x (dg_n (md_abs v)) r) (x - (dg_n (md_abs v) : Nat) - 1) 45 else dg_row (md_abs v) x (dg_n (md_abs v)) r
theorem dg_len (v : Int) : (md_dgs v).length = dg_n (md_abs v) + (if v < 0 then 1 else 0) := by
  unfold md_dgs
  rw [List.length_append, md_dg_len]
  show _ + dg_n (md_abs v) = _
  split
  · show 1 + _ = _; omega
  · show 0 + _ = _; omega
theorem dg_out_get {v x : Int} {r : Int → Int} {i : Nat} (h : i < (md_dgs v).length) : dg_out v x r (x - ((md_dgs v).length : Nat) + (i : Int)) = (md_dgs v).getD i 0 := by
  have hl := dg_len v
  have hn := dg_n_le (md_abs v)
  unfold dg_out
  by_cases hv : v < 0
  · rw [if_pos hv] at hl ⊢
    have e : md_dgs v = 45 :: md_dg (dg_n (md_abs v)) (md_abs v) := by unfold md_dgs; rw [if_pos hv]; rfl
    match i, h with
    | 0, _ =>
      rw [e, ← e, show x - ((md_dgs v).length : Nat) + ((0 : Nat) : Int) = x - (dg_n (md_abs v) : Nat) - 1 by omega, jk_set_at, e]
      rfl
    | i + 1, h =>
      rw [jk_set_ne _ _ (by omega)]
      unfold dg_row
      rw [if_pos (by omega), e]
      show _ = (md_dg (dg_n (md_abs v)) (md_abs v)).getD i 0
      rw [← e, md_dg_get _ _ i (by omega), show (x - 1 - (x - ((md_dgs v).length : Nat) + ((i + 1 : Nat) : Int))).toNat = dg_n (md_abs v) - 1 - i by omega]
  · rw [if_neg hv] at hl ⊢
    have e : md_dgs v = md_dg (dg_n (md_abs v)) (md_abs v) := by unfold md_dgs; rw [if_neg hv]; rfl
    unfold dg_row
    rw [if_pos (by omega), e, md_dg_get _ _ i (by omega), ← e, show (x - 1 - (x - ((md_dgs v).length : Nat) + (i : Int))).toNat = dg_n (md_abs v) - 1 - i by omega]
theorem dg_out_ne {v x : Int} {r : Int → Int} {p : Int} (h : p < x - ((md_dgs v).length : Nat) ∨ x ≤ p) : dg_out v x r p = r p := by
  have hl := dg_len v
  unfold dg_out
  by_cases hv : v < 0
  · rw [if_pos hv] at hl ⊢
    rw [jk_set_ne _ _ (by omega)]
    unfold dg_row
    rw [if_neg (by omega)]
  · rw [if_neg hv] at hl ⊢
    unfold dg_row
    rw [if_neg (by omega)]
theorem dg_out_bd {v x : Int} {r : Int → Int} {p : Int} (h : 0 ≤ r p ∧ r p < 128) : 0 ≤ dg_out v x r p ∧ dg_out v x r p < 128 := by
  have hr : ∀ A m, 0 ≤ dg_row A x m r p ∧ dg_row A x m r p < 128 := fun A m => by
    unfold dg_row
    split
    · omega
    · exact h
  unfold dg_out
  split
  · unfold jk_set
    split
    · exact ⟨by decide, by decide⟩
    · exact hr _ _
  · exact hr _ _
end B2
