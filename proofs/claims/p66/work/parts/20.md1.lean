section MD1
/-- the largest r with r * r ≤ 9 * len -/
def md_tl : Nat → Int → Int
  | 0, _ => 0
  | k + 1, len => if ((k : Int) + 1) * ((k : Int) + 1) ≤ 9 * len then (k : Int) + 1 else md_tl k len
def md_tol (len : Int) : Int := md_tl 84 len
theorem md_tl_eq {len r : Int} (h0 : 0 ≤ r) (h1 : r * r ≤ 9 * len) (h2 : 9 * len < (r + 1) * (r + 1)) : ∀ k : Nat, r ≤ (k : Int) → md_tl k len = r
  | 0, h => by show (0 : Int) = r; omega
  | k + 1, h => by
    unfold md_tl
    by_cases hk : r = (k : Int) + 1
    · rw [if_pos (by rw [← hk]; exact h1)]; exact hk.symm
    · have hle : r + 1 ≤ (k : Int) + 1 := by omega
      have hm : (r + 1) * (r + 1) ≤ ((k : Int) + 1) * ((k : Int) + 1) := Int.mul_le_mul hle hle (by omega) (by omega)
      rw [if_neg (by omega)]
      exact md_tl_eq h0 h1 h2 k (by omega)
/-- the model's places, from the object's own on -/
def md_t (k : Nat) : Option ((FieldType × Nat) ⊕ Nat) := match k with
  | 2 => some (.inl (.int, 240))
  | 4 => some (.inl (.int, 240))
  | 6 => some (.inl (.int, 1920))
  | 8 => some (.inl (.int, 240))
  | 10 => some (.inl (.char, 60))
  | 12 => some (.inl (.char, 60))
  | 14 => some (.inl (.int, 16))
  | 16 => some (.inl (.int, 10))
  | 18 => some (.inl (.int, 10))
  | 20 => some (.inl (.boolean, 10))
  | 22 => some (.inl (.int, 16))
  | 24 => some (.inl (.int, 16))
  | 26 => some (.inl (.int, 10))
  | 28 => some (.inl (.int, 300))
  | _ => none
def md_r (i : Int) : Option Nat := match i with
  | 0 => some 2
  | 1 => some 4
  | 2 => some 6
  | 4 => some 8
  | 6 => some 10
  | 10 => some 12
  | 13 => some 14
  | 14 => some 16
  | 15 => some 18
  | 16 => some 20
  | 17 => some 22
  | 18 => some 24
  | 19 => some 26
  | 22 => some 28
  | _ => none
def md_at (t : jk_T) (ρ : jk_P) (m : Nat) : Prop := t m = some (.inr 13) ∧ (∀ k g, md_t k = some g → t (m + k) = some g) ∧ ∀ i k, md_r i = some k → ρ m i = some (m + k)

def md_abs (v : Int) : Int := if v < 0 then -v else v
def md_in (v low high : Int) : Bool := decide (low ≤ v ∧ v ≤ high)
def md_gap (g : Int → Int) (l : Int) : Int := g (72 + l) + g (104 + l)
def md_good (g : Int → Int) (l : Int) : Bool := decide (g (120 + l) = 0) && (decide (g (88 + l) = 0) || decide (md_abs (md_gap g l) ≤ md_tol (g (56 + l))))
/-- what holds of the model's state at every call; B bounds the corrections -/
def md_lnf (B : Int) (g : Int → Int) (l : Int) : Prop := (0 ≤ g (24 + l) ∧ g (24 + l) < 10) ∧ (0 ≤ g (40 + l) ∧ g (40 + l) < 10) ∧ (0 ≤ g (56 + l) ∧ g (56 + l) ≤ 50) ∧ (-9999 ≤ g (72 + l) ∧ g (72 + l) ≤ 9999) ∧ (g (88 + l) = 0 ∨ g (88 + l) = 1) ∧ (-9999 ≤ g (104 + l) ∧ g (104 + l) ≤ 9999) ∧ (g (120 + l) = 0 ∨ g (120 + l) = 1) ∧ (-B ≤ g (136 + l) ∧ g (136 + l) ≤ B)
def md_ptf (g : Int → Int) (p : Int) : Prop := (g (4 + p) = 0 ∨ g (4 + p) = 1) ∧ -99999 ≤ g (14 + p) ∧ g (14 + p) ≤ 99999
def md_inv (B : Int) (g : Int → Int) : Prop := (0 ≤ g 0 ∧ g 0 ≤ 10) ∧ (0 ≤ g 1 ∧ g 1 ≤ 16) ∧ (0 ≤ g 2 ∧ g 2 ≤ 4) ∧ (-99999 ≤ g 3 ∧ g 3 ≤ 99999) ∧ (∀ p, 0 ≤ p ∧ p < 10 → md_ptf g p) ∧ (∀ l, 0 ≤ l ∧ l < 16 → md_lnf B g l) ∧ (0 ≤ B ∧ B ≤ 1100000) ∧ (∀ q, 0 ≤ q ∧ q < 4 → (0 ≤ g (156 + q) ∧ g (156 + q) ≤ 10) ∧ 0 ≤ g (152 + q) ∧ g (152 + q) < 10) ∧ ∀ i, 160 ≤ i ∧ i < 240 → -999 ≤ g i ∧ g i ≤ 999
theorem md_inv_ln {B : Int} {g : Int → Int} (h : md_inv B g) {l : Int} (hl : 0 ≤ l ∧ l < 16) : md_lnf B g l := h.2.2.2.2.2.1 l hl
theorem md_inv_pt {B : Int} {g : Int → Int} (h : md_inv B g) {p : Int} (hp : 0 ≤ p ∧ p < 10) : md_ptf g p := h.2.2.2.2.1 p hp
theorem md_tl_bd : ∀ (k : Nat) (len : Int), 0 ≤ md_tl k len ∧ md_tl k len ≤ (k : Int)
  | 0, _ => ⟨Int.le_refl _, Int.le_refl _⟩
  | k + 1, len => by
    have := md_tl_bd k len
    unfold md_tl
    split <;> omega
theorem md_tol_bd (len : Int) : 0 ≤ md_tol len ∧ md_tol len ≤ 84 := md_tl_bd 84 len

end MD1
