section MD3
theorem jk_rr {α : Type} (f : Nat → Int → α) {a b : Nat} (x y z w : Int → α) (h : a ≠ b) : jk_row (jk_row (jk_row (jk_row f a x) b y) a z) b w = jk_row (jk_row f a z) b w := by
  rw [jk_row_comm _ y z (Ne.symm h), jk_row_row, jk_row_row]
theorem jk_rs2 {α : Type} (f : Nat → Int → α) {a b : Nat} {x y : Int → α} (h1 : f a = x) (h2 : f b = y) : jk_row (jk_row f a x) b y = f := by
  subst h1 h2
  rw [jk_row_self, jk_row_self]
/-- f below k, r0 elsewhere -/
def jk_fill (r0 f : Int → Int) (k : Nat) : Int → Int := fun p => if 0 ≤ p ∧ p < (k : Int) then f p else r0 p
theorem jk_fill_0 (r0 f : Int → Int) : jk_fill r0 f 0 = r0 := by funext p; unfold jk_fill; rw [if_neg (by omega)]
theorem jk_fill_S (r0 f : Int → Int) (k : Nat) (x : Int) (hx : x = f (k : Int)) : jk_set (jk_fill r0 f k) (k : Int) x = jk_fill r0 f (k + 1) := by
  subst hx
  funext p
  unfold jk_set jk_fill
  by_cases hp : p = (k : Int)
  · subst hp; rw [if_pos rfl, if_pos (by omega)]
  · rw [if_neg hp]
    by_cases h : 0 ≤ p ∧ p < (k : Int)
    · rw [if_pos h, if_pos (by omega)]
    · rw [if_neg h, if_neg (by omega)]
def md_take (g : Int → Int) (s : (Int → Int) × (Int → Int)) (l : Int) : (Int → Int) × (Int → Int) :=
  if md_good g l = true ∧ s.2 (g (24 + l)) ≠ s.2 (g (40 + l)) then (jk_set s.1 l 1, md_uni s.2 (g 0) (g (24 + l)) (g (40 + l))) else s
/-- the marks are 0 or 1, the roots are points -/
def md_tr (s : (Int → Int) × (Int → Int)) : Prop := (∀ l, 0 ≤ l ∧ l < 16 → s.1 l = 0 ∨ s.1 l = 1) ∧ ∀ p, 0 ≤ p ∧ p < 10 → 0 ≤ s.2 p ∧ s.2 p < 10
theorem md_take_tr {B : Int} {g : Int → Int} (hi : md_inv B g) {s : (Int → Int) × (Int → Int)} (h : md_tr s) {l : Int} (hl : 0 ≤ l ∧ l < 16) : md_tr (md_take g s l) := by
  obtain ⟨⟨a1, a2⟩, ⟨b1, b2⟩, -⟩ := md_inv_ln hi hl
  have ha := h.2 (g (24 + l)) ⟨a1, a2⟩
  have hb := h.2 (g (40 + l)) ⟨b1, b2⟩
  unfold md_take
  split
  · refine ⟨fun j hj => ?_, fun p hp => ?_⟩
    · show jk_set s.1 l 1 j = 0 ∨ jk_set s.1 l 1 j = 1
      unfold jk_set
      split
      · exact Or.inr rfl
      · exact h.1 j hj
    · have := h.2 p hp
      show 0 ≤ md_uni s.2 _ _ _ p ∧ md_uni s.2 _ _ _ p < 10
      unfold md_uni
      (repeat' split) <;> assumption
  · exact h
def md_pass (g T : Int → Int) (s : (Int → Int) × (Int → Int)) (l : Int) : (Int → Int) × (Int → Int) :=
  if T l = 0 ∨ s.1 (g (24 + l)) = s.1 (g (40 + l)) then s else
  (jk_set (jk_set s.1 (g (24 + l)) 1) (g (40 + l)) 1, if s.1 (g (24 + l)) = 0 then jk_set s.2 (g (24 + l)) (s.2 (g (40 + l)) - md_cor g l) else jk_set s.2 (g (40 + l)) (s.2 (g (24 + l)) + md_cor g l))
def md_passB (g T : Int → Int) (s : (Int → Int) × (Int → Int)) (l : Int) : Bool := !decide (T l = 0 ∨ s.1 (g (24 + l)) = s.1 (g (40 + l)))
end MD3
