section MD8
theorem jk_set_set {α : Type} (r : Int → α) (i : Int) (v w : α) : jk_set (jk_set r i v) i w = jk_set r i w := by
  funext j; unfold jk_set; split <;> rfl
theorem jk_set_at {α : Type} (r : Int → α) (i : Int) (v : α) : jk_set r i v i = v := if_pos rfl
theorem jk_set_ne {α : Type} (r : Int → α) {i j : Int} (v : α) (h : ¬ j = i) : jk_set r i v j = r j := if_neg h
theorem jk_row_id {α : Type} {f : Nat → Int → α} {a : Nat} {x : Int → α} (h : f a = x) : jk_row f a x = f := by subst h; exact jk_row_self f a
/-- 240 ints copied -/
def md_cpy (F D : Int → Int) (at_ th : Int) (k : Int) : Int → Int := fun p => if th ≤ p ∧ p < th + k then F (p - th + at_) else D p
theorem md_cpy_S (F D : Int → Int) (at_ th : Int) (k : Nat) : jk_set (md_cpy F D at_ th (k : Int)) (th + (k : Int)) (F (at_ + (k : Int))) = md_cpy F D at_ th ((k + 1 : Nat) : Int) := by
  funext p
  unfold jk_set md_cpy
  by_cases hp : p = th + (k : Int)
  · subst hp; rw [if_pos rfl, if_pos (by omega)]; congr 1; omega
  · rw [if_neg hp]
    by_cases h : th ≤ p ∧ p < th + (k : Int)
    · rw [if_pos h, if_pos (by omega)]
    · rw [if_neg h, if_neg (by omega)]
theorem md_cpy_0 (F D : Int → Int) (at_ th : Int) : md_cpy F D at_ th ((0 : Nat) : Int) = D := by funext p; unfold md_cpy; rw [if_neg (by omega)]
theorem md_cpy_all {F D : Int → Int} (hF : ∀ p, p < 0 ∨ 240 ≤ p → F p = 0) (hD : ∀ p, p < 0 ∨ 240 ≤ p → D p = 0) : md_cpy F D 0 0 240 = F := by
  funext p; unfold md_cpy
  split
  · congr 1; omega
  · rw [hD p (by omega), hF p (by omega)]
def md_th (σ : jk_I) (m : Nat) (O : Int → Int) (k : Int) : jk_I := jk_row σ m (jk_set O 12 k)
def md_h1 (h : Int → Int) (c : Int) : Int → Int := if c = 8 then (fun p => if 0 ≤ p ∧ p < 1680 then h (p + 240) else h p) else h
def md_h2 (h : Int → Int) (c : Int) (b : Int → Int) : Int → Int := md_cpy b (md_h1 h c) 0 ((if c = 8 then 7 else c) * 240) 240
def md_c2 (c : Int) : Int := if c = 8 then 8 else c + 1
/-- what a change leaves: nothing if it failed, otherwise a step of the history more -/
def md_kp (σ : jk_I) (m : Nat) (O h b : Int → Int) : jk_I := if O 12 = 0 then jk_row (jk_row σ (m + 6) (md_h2 h (O 3) b)) m (jk_set O 3 (md_c2 (O 3))) else jk_row σ (m + 2) b
end MD8
