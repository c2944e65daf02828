section MD2
def md_lev (g : Int → Int) (l : Int) : Int := if g (88 + l) = 0 then g (72 + l) else (g (72 + l) - g (104 + l)) / 2
def md_cor (g : Int → Int) (l : Int) : Int := md_lev g l + g (136 + l)
theorem md_lev_bd {B : Int} {g : Int → Int} {l : Int} (h : md_lnf B g l) : -9999 ≤ md_lev g l ∧ md_lev g l ≤ 9999 := by
  obtain ⟨l1, l2, l3, l4, l5, l6, l7, l8⟩ := h
  unfold md_lev; split <;> omega
def md_goods (g : Int → Int) : Int := jk_sum (fun l => jB (md_good g l)) (g 1).toNat
def md_uni (root : Int → Int) (c : Int) (a b : Int) : Int → Int := fun p => if 0 ≤ p ∧ p < c ∧ root p = (if root a < root b then root b else root a) then (if root a < root b then root a else root b) else root p
theorem md_uni_0 {r : Int → Int} {lo hi : Int} : (fun p => if 0 ≤ p ∧ p < ((0 : Nat) : Int) ∧ r p = hi then lo else r p) = r := by
  funext p; rw [if_neg (by omega)]
theorem md_uni_step {r : Int → Int} {k : Nat} {lo hi x : Int} (hx : x = if r k = hi then lo else r k) : jk_set (fun p => if 0 ≤ p ∧ p < (k : Int) ∧ r p = hi then lo else r p) (k : Int) x = (fun p => if 0 ≤ p ∧ p < ((k + 1 : Nat) : Int) ∧ r p = hi then lo else r p) := by
  subst hx
  funext p
  simp only [jk_set]
  by_cases hp : p = (k : Int)
  · subst hp; simp; grind
  · rw [if_neg hp]; grind
end MD2
