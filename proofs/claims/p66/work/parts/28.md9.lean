section MD9
/-- what a change answers (thrown, answer, state), and the heap behind it -/
abbrev md_R3 : Type := Int × Int × (Int → Int)
def md_res (σ : jk_I) (m : Nat) (O : Int → Int) (r : md_R3) : jk_I := jk_row (jk_row σ (m + 2) r.2.2) m (jk_set O 12 r.1)
theorem md_q {n : Nat} {t : jk_T} {σ σ' : jk_I} {ρ : jk_P} {m : Nat} {O : Int → Int} {r : md_R3} {k v : Int} {g' : Int → Int} (hr : r = (k, v, g')) (hs : σ' = md_res σ m O (k, v, g')) : jk_q (some (jI r.2.1)) n t (md_res σ m O r) ρ (some (jI v)) n t σ' ρ := by subst hr hs; exact jk_qr
def md_addsPoint (g : Int → Int) : md_R3 := if g 0 = 10 then (1, 0, g) else (0, g 0, jk_set g 0 (g 0 + 1))
def md_fixG (g : Int → Int) (p v : Int) : Int → Int := jk_set (jk_set g (4 + p) 1) (14 + p) v
def md_fixes (g : Int → Int) (p v : Int) : md_R3 := if md_in p 0 (g 0 - 1) = false then (1, 0, g) else if md_in v (-99999) 99999 = false then (2, 0, g) else (0, jk_sum (fun o => md_fixG g p v (4 + o)) (g 0).toNat, md_fixG g p v)
def md_releases (g : Int → Int) (p : Int) : md_R3 := if md_in p 0 (g 0 - 1) = false then (1, 0, g) else if g (4 + p) = 0 then (2, 0, g) else (0, g (14 + p), jk_set g (4 + p) 0)
def md_addsLine (g : Int → Int) (a b f len : Int) : md_R3 :=
  if md_in a 0 (g 0 - 1) = false ∨ md_in b 0 (g 0 - 1) = false then (1, 0, g) else
  if a = b ∨ md_in f (-9999) 9999 = false ∨ md_in len 1 50 = false then (2, 0, g) else
  if g 1 = 16 then (3, 0, g) else
  (0, g 1, jk_set (jk_set (jk_set (jk_set (jk_set g (24 + g 1) a) (40 + g 1) b) (72 + g 1) f) (56 + g 1) len) 1 (g 1 + 1))
def md_runG (g : Int → Int) (l b : Int) : Int → Int := jk_set (jk_set g (88 + l) 1) (104 + l) b
def md_addsRun (g : Int → Int) (l b : Int) : md_R3 := if md_in l 0 (g 1 - 1) = false then (1, 0, g) else if md_in b (-9999) 9999 = false then (2, 0, g) else if g (88 + l) = 1 then (3, 0, g) else (0, md_gap (md_runG g l b) l, md_runG g l b)
def md_marks (g : Int → Int) (l w : Int) : md_R3 := if md_in l 0 (g 1 - 1) = false then (1, 0, g) else if g (120 + l) ≠ w then (2, 0, g) else (0, md_goods (jk_set g (120 + l) (1 - w)), jk_set g (120 + l) (1 - w))
def md_clr (g : Int → Int) (k : Int) : Int → Int := fun p => if 136 ≤ p ∧ p < 136 + k then 0 else g p
def md_resets (g : Int → Int) : md_R3 := (0, jk_sum (fun l => if g (136 + l) = 0 then 0 else 1) (g 1).toNat, md_clr g (g 1))
def md_addsProfile (g : Int → Int) (p : Int) : md_R3 := if md_in p 0 (g 0 - 1) = false then (1, 0, g) else if g 2 = 4 then (2, 0, g) else (0, g 2, jk_set (jk_set g (152 + g 2) p) 2 (g 2 + 1))
def md_stG (g : Int → Int) (q d f : Int) : Int → Int := jk_set (jk_set (jk_set g (160 + 10 * q + g (156 + q)) d) (200 + 10 * q + g (156 + q)) f) (156 + q) (g (156 + q) + 1)
def md_addsStation (g : Int → Int) (q d f : Int) : md_R3 :=
  if md_in q 0 (g 2 - 1) = false then (1, 0, g) else if md_in d 0 99 = false ∨ md_in f (-999) 999 = false then (2, 0, g) else
  if g (156 + q) = 10 ∨ (0 < g (156 + q) ∧ d ≤ g (160 + 10 * q + (g (156 + q) - 1))) then (3, 0, g) else (0, g (156 + q) + 1, md_stG g q d f)
def md_setsWater (g : Int → Int) (w : Int) : md_R3 := if md_in w (-99999) 99999 = false then (1, 0, g) else (0, g 3, jk_set g 3 w)
theorem md_inT {v a b : Int} (h : md_in v a b = true) : a ≤ v ∧ v ≤ b := of_decide_eq_true h
theorem md_inF {v a b : Int} (h : md_in v a b = false) : ¬ (a ≤ v ∧ v ≤ b) := of_decide_eq_false h
theorem md_inv_ex {B : Int} {g : Int → Int} (hi : md_inv B g) {l x : Int} (hl : 0 ≤ l ∧ l < 16) (hx : x = 0 ∨ x = 1) : md_inv B (jk_set g (120 + l) x) := by
  obtain ⟨a, b, c, d, e, f, k, q, r⟩ := hi
  refine ⟨?_, ?_, ?_, ?_, fun p hp => ?_, fun j hj => ?_, k, fun i hi => ?_, fun i hi => ?_⟩
  · rw [jk_set_ne _ _ (by omega)]; exact a
  · rw [jk_set_ne _ _ (by omega)]; exact b
  · rw [jk_set_ne _ _ (by omega)]; exact c
  · rw [jk_set_ne _ _ (by omega)]; exact d
  · unfold md_ptf; rw [jk_set_ne _ _ (by omega), jk_set_ne _ _ (by omega)]; exact e p hp
  · have := f j hj
    unfold md_lnf at this ⊢
    rw [jk_set_ne g x (show ¬ (24 + j = 120 + l) by omega), jk_set_ne g x (show ¬ (40 + j = 120 + l) by omega), jk_set_ne g x (show ¬ (56 + j = 120 + l) by omega), jk_set_ne g x (show ¬ (72 + j = 120 + l) by omega), jk_set_ne g x (show ¬ (88 + j = 120 + l) by omega), jk_set_ne g x (show ¬ (104 + j = 120 + l) by omega), jk_set_ne g x (show ¬ (136 + j = 120 + l) by omega)]
    refine ⟨this.1, this.2.1, this.2.2.1, this.2.2.2.1, this.2.2.2.2.1, this.2.2.2.2.2.1, ?_, this.2.2.2.2.2.2.2⟩
    unfold jk_set
    split
    · exact hx
    · exact this.2.2.2.2.2.2.1
  · rw [jk_set_ne _ _ (by omega), jk_set_ne _ _ (by omega)]; exact q i hi
  · rw [jk_set_ne _ _ (by omega)]; exact r i hi
end MD9
