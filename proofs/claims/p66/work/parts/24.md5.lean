section MD5
/-- the first number below k with P, -1 without one -/
def jk_fnd (P : Int → Bool) : Nat → Int
  | 0 => -1
  | k + 1 => if jk_fnd P k = -1 then (if P (k : Int) = true then (k : Int) else -1) else jk_fnd P k
theorem jk_fnd_bd (P : Int → Bool) : ∀ k : Nat, -1 ≤ jk_fnd P k ∧ jk_fnd P k < (k : Int) ∧ (0 ≤ jk_fnd P k → P (jk_fnd P k) = true)
  | 0 => ⟨Int.le_refl _, by show (-1 : Int) < 0; decide, fun h => absurd h (by show ¬ (0 : Int) ≤ -1; decide)⟩
  | k + 1 => by
    have := jk_fnd_bd P k
    unfold jk_fnd
    split
    · split
      · exact ⟨by omega, by omega, fun _ => by assumption⟩
      · exact ⟨by omega, by omega, fun h => absurd h (by decide)⟩
    · exact ⟨this.1, by omega, this.2.2⟩
theorem jk_fnd_hit {P : Int → Bool} {k : Nat} (h0 : jk_fnd P k = -1) (h1 : P (k : Int) = true) : ∀ N : Nat, k < N → jk_fnd P N = (k : Int)
  | 0, h => absurd h (Nat.not_lt_zero _)
  | N + 1, h => by
    unfold jk_fnd
    by_cases hk : k = N
    · subst hk; rw [if_pos h0, if_pos h1]
    · rw [jk_fnd_hit h0 h1 N (by omega), if_neg (by omega)]
theorem jk_fnd_S {P : Int → Bool} {k : Nat} (h0 : jk_fnd P k = -1) (h1 : P (k : Int) = false) : jk_fnd P (k + 1) = -1 := by
  unfold jk_fnd; rw [if_pos h0, if_neg (by rw [h1]; decide)]
def md_datP (g r : Int → Int) (p : Int) : Int → Bool := fun o => decide (r o = r p ∧ g (4 + o) = 1)
def md_dat (g r : Int → Int) (p : Int) : Int := jk_fnd (md_datP g r p) (g 0).toNat
def md_byd (g r V : Int → Int) (p : Int) : Int := g (14 + md_dat g r p) + V p - V (md_dat g r p)
def md_hi (g r : Int → Int) (p : Int) : Bool := decide (md_dat g r p ≠ -1)
def md_ht (g r V : Int → Int) (p : Int) : Int := if g (4 + p) = 1 then g (14 + p) else md_byd g r V p
def md_clo (g T : Int → Int) (l : Int) : Bool := md_good g l && decide (T l = 0)
def md_len (g S : Int → Int) : Int := jk_sum (fun l => if S l = 0 then 0 else g (56 + l)) (g 1).toNat
def md_err (g S : Int → Int) : Int := jk_sum (fun l => S l * md_cor g l) (g 1).toNat
def md_rem (g S : Int → Int) (l e len : Int) : Int := if S l = 0 then -1 else (e * g (56 + l)) % len
end MD5
