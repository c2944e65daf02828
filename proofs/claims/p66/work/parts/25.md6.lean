section MD6
theorem md_cor_bd {B : Int} {g : Int → Int} {l : Int} (hi : md_inv B g) (hl : 0 ≤ l ∧ l < 16) : -1109999 ≤ md_cor g l ∧ md_cor g l ≤ 1109999 := by
  have h1 := md_lev_bd (md_inv_ln hi hl)
  obtain ⟨l1, l2, l3, l4, l5, l6, l7, l8⟩ := md_inv_ln hi hl
  have hB := hi.2.2.2.2.2.2
  unfold md_cor; omega
theorem jk_sum_bd2 {f : Int → Int} {a b : Int} : ∀ k : Nat, (∀ i, 0 ≤ i → i < (k : Int) → a ≤ f i ∧ f i ≤ b) → a * (k : Int) ≤ jk_sum f k ∧ jk_sum f k ≤ b * (k : Int)
  | 0, _ => by simp [jk_sum]
  | k + 1, h => by
    have h1 := jk_sum_bd2 k (fun i h2 h3 => h i h2 (by omega))
    have h2 := h (k : Int) (by omega) (by omega)
    have e1 : a * ((k + 1 : Nat) : Int) = a * (k : Int) + a := by rw [Int.natCast_succ, Int.mul_add, Int.mul_one]
    have e2 : b * ((k + 1 : Nat) : Int) = b * (k : Int) + b := by rw [Int.natCast_succ, Int.mul_add, Int.mul_one]
    rw [e1, e2]
    show _ ≤ jk_sum f k + f (k : Int) ∧ jk_sum f k + f (k : Int) ≤ _
    omega
theorem md_err_bd {B : Int} {g S : Int → Int} (hi : md_inv B g) (hsb : ∀ l, 0 ≤ l ∧ l < 16 → -1 ≤ S l ∧ S l ≤ 1) : -17759984 ≤ md_err g S ∧ md_err g S ≤ 17759984 := by
  obtain ⟨i0, i1, -⟩ := id hi
  have h := jk_sum_bd2 (f := fun l => S l * md_cor g l) (a := -1109999) (b := 1109999) (g 1).toNat (fun i h1 h2 => by
    have hc := md_cor_bd hi (l := i) ⟨h1, by omega⟩
    have hs := hsb i ⟨h1, by omega⟩
    rcases (show S i = -1 ∨ S i = 0 ∨ S i = 1 by omega) with e | e | e <;> simp only [e] <;> omega)
  unfold md_err
  omega
theorem md_len_bd {B : Int} {g S : Int → Int} (hi : md_inv B g) : 0 ≤ md_len g S ∧ md_len g S ≤ 800 := by
  obtain ⟨i0, i1, -⟩ := id hi
  have h := jk_sum_bd2 (f := fun l => if S l = 0 then 0 else g (56 + l)) (a := 0) (b := 50) (g 1).toNat (fun i h1 h2 => by
    have hc := (md_inv_ln hi (l := i) ⟨h1, by omega⟩).2.2.1
    split <;> omega)
  unfold md_len
  omega
theorem md_rem_bd {g S : Int → Int} {l e len : Int} (hlen : 0 < len ∧ len ≤ 1000) : -1 ≤ md_rem g S l e len ∧ md_rem g S l e len < 1000 := by
  unfold md_rem
  split
  · omega
  · have h1 := Int.emod_nonneg (e * g (56 + l)) (show len ≠ 0 by omega)
    have h2 := Int.emod_lt_of_pos (e * g (56 + l)) hlen.1
    omega
/-- the part of a line, rounded down -/
def md_p0 (g S : Int → Int) (e len l : Int) : Int := if l < g 1 ∧ S l ≠ 0 then e * g (56 + l) / len else 0
def md_left (g S : Int → Int) (e len : Int) (k : Nat) : Int := e - jk_sum (md_p0 g S e len) k
def md_ahead (g S : Int → Int) (e len l : Int) (k : Nat) : Int := jk_sum (fun o => jB (decide (md_rem g S o e len > md_rem g S l e len ∨ (md_rem g S o e len = md_rem g S l e len ∧ o < l)))) k
def md_p1 (g S : Int → Int) (e len l : Int) : Int := md_p0 g S e len l + jB (decide (md_rem g S l e len ≠ -1 ∧ md_ahead g S e len l (g 1).toNat < md_left g S e len 16))
/-- the parts by line -/
def md_parts (g S : Int → Int) : Int → Int := fun l => if 0 ≤ l ∧ l < 16 then (if l < g 1 then md_p1 g S (md_abs (md_err g S)) (md_len g S) l else 0) else 0
theorem md_p0_sum {B : Int} {g S : Int → Int} {e len : Int} (hi : md_inv B g) (he : 0 ≤ e) (hlen : 0 < len) : ∀ k : Nat, k ≤ 16 → 0 ≤ jk_sum (md_p0 g S e len) k ∧ len * jk_sum (md_p0 g S e len) k ≤ e * jk_sum (fun l => if l < g 1 ∧ S l ≠ 0 then g (56 + l) else 0) k
  | 0, _ => by simp [jk_sum]
  | k + 1, hk => by
    have h1 := md_p0_sum hi he hlen (S := S) k (by omega)
    show 0 ≤ jk_sum (md_p0 g S e len) k + md_p0 g S e len (k : Int) ∧ len * (jk_sum (md_p0 g S e len) k + md_p0 g S e len (k : Int)) ≤ e * (jk_sum (fun l => if l < g 1 ∧ S l ≠ 0 then g (56 + l) else 0) k + (if (k : Int) < g 1 ∧ S (k : Int) ≠ 0 then g (56 + (k : Int)) else 0))
    have hg := (md_inv_ln hi (l := (k : Int)) ⟨by omega, by omega⟩).2.2.1
    rw [Int.mul_add, Int.mul_add]
    unfold md_p0
    split
    · have h2 : len * (e * g (56 + (k : Int)) / len) ≤ e * g (56 + (k : Int)) := Int.mul_ediv_self_le (by omega)
      have h3 : 0 ≤ e * g (56 + (k : Int)) / len := Int.ediv_nonneg (Int.mul_nonneg he hg.1) (by omega)
      unfold md_p0 at h1
      omega
    · unfold md_p0 at h1
      rw [Int.mul_zero, Int.mul_zero]
      omega
theorem jk_sum_cut {f : Int → Int} {c : Int} (hc : 0 ≤ c) : ∀ k : Nat, c ≤ (k : Int) → jk_sum (fun l => if l < c then f l else 0) k = jk_sum f c.toNat
  | 0, h => by rw [show c.toNat = 0 by omega]; rfl
  | k + 1, h => by
    show jk_sum (fun l => if l < c then f l else 0) k + (if (k : Int) < c then f (k : Int) else 0) = _
    by_cases hk : c ≤ (k : Int)
    · rw [jk_sum_cut hc k hk, if_neg (by omega), Int.add_zero]
    · rw [if_pos (by omega), show c.toNat = k + 1 by omega]
      show _ = jk_sum f k + f (k : Int)
      rw [jk_sum_cong k (fun i h1 h2 => if_pos (show i < c by omega))]
theorem md_left_bd {B : Int} {g S : Int → Int} {e : Int} (hi : md_inv B g) (he : 0 ≤ e) (hlen : 0 < md_len g S) : 0 ≤ md_left g S e (md_len g S) 16 ∧ md_left g S e (md_len g S) 16 ≤ e := by
  have h := md_p0_sum (S := S) hi he hlen 16 (by omega)
  have e1 : jk_sum (fun l => if l < g 1 ∧ S l ≠ 0 then g (56 + l) else 0) 16 = md_len g S := by
    unfold md_len
    rw [← jk_sum_cut (f := fun l => if S l = 0 then 0 else g (56 + l)) hi.2.1.1 16 (by have := hi.2.1; omega)]
    exact jk_sum_cong 16 (fun i h1 h2 => by
      by_cases h3 : i < g 1 <;> by_cases h4 : S i = 0 <;> simp [h3, h4])
  rw [e1, Int.mul_comm e] at h
  have h2 := Int.le_of_mul_le_mul_left h.2 hlen
  unfold md_left
  omega
theorem md_parts_fin {g S : Int → Int} {e len : Int} (h1 : 0 ≤ g 1 ∧ g 1 ≤ 16) : jk_fill (fun l => if 0 ≤ l ∧ l < 16 then md_p0 g S e len l else 0) (md_p1 g S e len) (g 1).toNat = fun l => if 0 ≤ l ∧ l < 16 then (if l < g 1 then md_p1 g S e len l else 0) else 0 := by
  funext l
  unfold jk_fill
  rw [show ((g 1).toNat : Int) = g 1 by omega]
  by_cases a : 0 ≤ l ∧ l < g 1
  · rw [if_pos a, if_pos ⟨a.1, by omega⟩, if_pos a.2]
  · rw [if_neg a]
    show (if 0 ≤ l ∧ l < 16 then md_p0 g S e len l else 0) = (if 0 ≤ l ∧ l < 16 then (if l < g 1 then md_p1 g S e len l else 0) else 0)
    by_cases b : 0 ≤ l ∧ l < 16
    · rw [if_pos b, if_pos b, if_neg (by omega)]
      unfold md_p0
      rw [if_neg (fun h => a ⟨b.1, h.1⟩)]
    · rw [if_neg b, if_neg b]
end MD6
