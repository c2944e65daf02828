section MD16
def md_Ds (g : Int → Int) (q s : Int) : Int := g (160 + 10 * q + s)
/-- distances grow -/
def md_inx (g : Int → Int) : Prop := ∀ q, 0 ≤ q ∧ q < g 2 → (∀ s, 0 ≤ s ∧ s < g (156 + q) → 0 ≤ md_Ds g q s ∧ md_Ds g q s ≤ 99) ∧ ∀ s, 0 ≤ s ∧ s + 1 < g (156 + q) → md_Ds g q s < md_Ds g q (s + 1)
def md_ws (g : Int → Int) (q c : Int) : Nat → Nat → Nat
  | 0, s => s
  | f + 1, s => if (s : Int) < g (156 + q) - 1 ∧ md_Ds g q ((s : Int) + 1) ≤ c then md_ws g q c f (s + 1) else s
def md_stn (g : Int → Int) (q c : Int) : Int := (md_ws g q c 10 0 : Nat)
def md_off (g : Int → Int) (q c : Int) : Int :=
  if md_stn g q c = g (156 + q) - 1 then g (200 + 10 * q + md_stn g q c) else
  g (200 + 10 * q + md_stn g q c) + ((g (200 + 10 * q + md_stn g q c + 1) - g (200 + 10 * q + md_stn g q c)) * (c - md_Ds g q (md_stn g q c))) / (md_Ds g q (md_stn g q c + 1) - md_Ds g q (md_stn g q c))
theorem md_ws_bd {g : Int → Int} {q c : Int} : ∀ (f s : Nat), (s : Int) ≤ g (156 + q) - 1 → (md_ws g q c f s : Int) ≤ g (156 + q) - 1
  | 0, s, h => h
  | f + 1, s, h => by
    unfold md_ws
    split
    · rename_i h1; exact md_ws_bd f (s + 1) (by omega)
    · exact h
theorem md_quo {v b : Int} (hb : 0 < b) : -((-v + b - 1) / b) = v / b := by
  have h1 := Int.mul_ediv_add_emod v b
  have h2 := Int.emod_nonneg v (show b ≠ 0 by omega)
  have h3 := Int.emod_lt_of_pos v hb
  have e : -v + b - 1 = (b - 1 - v % b) + b * (-(v / b)) := by
    rw [Int.mul_neg]; omega
  rw [e, Int.add_mul_ediv_left _ _ (show b ≠ 0 by omega), Int.ediv_eq_zero_of_lt (by omega) (by omega)]
  omega
theorem md_quo_bd {v b C : Int} (hb : 0 < b) (h : -C ≤ v ∧ v ≤ C) : -C ≤ v / b ∧ v / b ≤ C := by
  have hC : 0 ≤ C := by omega
  constructor
  · apply Int.le_ediv_of_mul_le hb
    have : -C * b ≤ -C * 1 := Int.mul_le_mul_of_nonpos_left (by omega) (by omega)
    omega
  · have h1 : v / b ≤ C / b := Int.ediv_le_ediv hb h.2
    have h2 : C / b ≤ C := Int.ediv_le_self b hC
    omega
theorem md_mulbd {x y X Y : Int} (hx : -X ≤ x ∧ x ≤ X) (hy : -Y ≤ y ∧ y ≤ Y) : -(X * Y) ≤ x * y ∧ x * y ≤ X * Y := by
  have hX : 0 ≤ X := by omega
  have hY : 0 ≤ Y := by omega
  have key : ∀ a b : Int, 0 ≤ a → a ≤ X → 0 ≤ b → b ≤ Y → 0 ≤ a * b ∧ a * b ≤ X * Y := fun a b h1 h2 h3 h4 => ⟨Int.mul_nonneg h1 h3, Int.mul_le_mul h2 h4 h3 hX⟩
  have hXY := Int.mul_nonneg hX hY
  rcases Int.le_total 0 x with h1 | h1 <;> rcases Int.le_total 0 y with h2 | h2
  · have := key x y h1 hx.2 h2 hy.2; omega
  · have := key x (-y) h1 hx.2 (by omega) (by omega); rw [Int.mul_neg] at this; omega
  · have := key (-x) y (by omega) (by omega) h2 hy.2; rw [Int.neg_mul] at this; omega
  · have := key (-x) (-y) (by omega) (by omega) (by omega) (by omega); rw [Int.neg_mul_neg] at this; omega
theorem md_stn_bd {g : Int → Int} {q c : Int} (hst : 1 ≤ g (156 + q)) : 0 ≤ md_stn g q c ∧ md_stn g q c ≤ g (156 + q) - 1 := by
  have := md_ws_bd (g := g) (q := q) (c := c) 10 0 (by show (0 : Int) ≤ _; omega)
  unfold md_stn; omega
theorem md_off_bd {B : Int} {g : Int → Int} (hi : md_inv B g) {q c : Int} (hq : 0 ≤ q ∧ q < 4) (hst : 1 ≤ g (156 + q) ∧ g (156 + q) ≤ 10) (hx : md_inx g) (hq2 : q < g 2) (hc : 0 ≤ c ∧ c ≤ 99) : -198801 ≤ md_off g q c ∧ md_off g q c ≤ 198801 := by
  have hrg := hi.2.2.2.2.2.2.2.2
  obtain ⟨hx1, hx2⟩ := hx q ⟨hq.1, hq2⟩
  have hs := md_stn_bd (c := c) hst.1
  unfold md_off
  generalize md_stn g q c = s at hs ⊢
  have r1 := hrg (200 + 10 * q + s) ⟨by omega, by omega⟩
  split
  · omega
  · have ha := hx1 s ⟨by omega, by omega⟩
    have hb := hx1 (s + 1) ⟨by omega, by omega⟩
    have hab := hx2 s ⟨by omega, by omega⟩
    have r2 := hrg (200 + 10 * q + s + 1) ⟨by omega, by omega⟩
    have hpr := md_mulbd (x := g (200 + 10 * q + s + 1) - g (200 + 10 * q + s)) (y := c - md_Ds g q s) (X := 1998) (Y := 99) ⟨by omega, by omega⟩ ⟨by omega, by omega⟩
    have hqb := md_quo_bd (v := (g (200 + 10 * q + s + 1) - g (200 + 10 * q + s)) * (c - md_Ds g q s)) (b := md_Ds g q (s + 1) - md_Ds g q s) (C := 1998 * 99) (by omega) ⟨by omega, by omega⟩
    omega
def md_gnd (g : Int → Int) (q c : Int) : Int := md_HT g (g (152 + q)) + md_off g q c
def md_wet (g : Int → Int) (q c : Int) : Bool := decide (md_gnd g q c < g 3)
def md_q_gr (g : Int → Int) (q c : Int) : Int × Int := if md_in q 0 (g 2 - 1) = false then (1, 0) else if g (156 + q) = 0 then (2, 0) else if md_in c (md_Ds g q 0) (md_Ds g q (g (156 + q) - 1)) = false then (2, 0) else if md_H g (g (152 + q)) = true then (0, md_gnd g q c) else (3, 0)
def md_wng (g : Int → Int) (q : Int) : Int := if md_in q 0 (g 2 - 1) = false then 1 else if md_H g (g (152 + q)) = true then 0 else 2
def md_wngS (σ : jk_I) (m : Nat) (g : Int → Int) (q : Int) : jk_I := if md_in q 0 (g 2 - 1) = false then σ else md_gr σ m g
def md_wetI (g : Int → Int) (q c : Int) : Bool := md_in c (md_Ds g q 0) (md_Ds g q (g (156 + q) - 1)) && md_wet g q c
def md_q_wc (g : Int → Int) (q : Int) : Int × Int := if 0 < md_wng g q then (md_wng g q, 0) else (0, if 0 < g (156 + q) then jk_sum (fun c => jB (md_wetI g q c)) 100 else 0)
def md_sho (g : Int → Int) (q c : Int) : Bool := decide (md_Ds g q 0 < c ∧ c ≤ md_Ds g q (g (156 + q) - 1)) && (md_wet g q c != md_wet g q (c - 1))
def md_q_sh (g : Int → Int) (q : Int) : Int × Int := if 0 < md_wng g q then (md_wng g q, 0) else (0, if 0 < g (156 + q) then jk_sum (fun c => jB (md_sho g q (c + 1))) 99 else 0)
def md_low (g : Int → Int) (q b : Int) : Nat → Int
  | 0 => b
  | k + 1 => if md_off g q (b + 1 + (k : Int)) < md_off g q (md_low g q b k) then b + 1 + (k : Int) else md_low g q b k
def md_q_lw (g : Int → Int) (q : Int) : Int × Int := if md_in q 0 (g 2 - 1) = false then (1, 0) else if g (156 + q) = 0 then (2, 0) else (0, md_low g q (md_Ds g q 0) (md_Ds g q (g (156 + q) - 1) - md_Ds g q 0).toNat)
end MD16
