section MD14
def md_q_firstOf (g : Int → Int) (l : Int) : Int × Int := md_q_ln g 24 l
def md_q_secondOf (g : Int → Int) (l : Int) : Int × Int := md_q_ln g 40 l
def md_q_lengthOf (g : Int → Int) (l : Int) : Int × Int := md_q_ln g 56 l
def md_q_correction (g : Int → Int) (l : Int) : Int × Int := md_q_ln g 136 l
def md_q_ex (g : Int → Int) (l : Int) : Int × Bool := if md_in l 0 (g 1 - 1) = false then (1, false) else (0, decide (g (120 + l) = 1))
theorem md_q_exv {B : Int} {g : Int → Int} (hi : md_inv B g) {l : Int} : (md_q_ln g 120 l).1 = (md_q_ex g l).1 ∧ ((md_q_ln g 120 l).2 = 0 ∨ (md_q_ln g 120 l).2 = 1) ∧ ((md_q_ln g 120 l).2 = 1 ↔ (md_q_ex g l).2 = true) := by
  unfold md_q_ln md_q_ex
  cases h : md_in l 0 (g 1 - 1)
  · simp
  · have h2 := md_inT h
    have hg1 := hi.2.1
    have h3 := (md_inv_ln hi (l := l) ⟨by omega, by omega⟩).2.2.2.2.2.2.1
    simp
    omega
def md_q_st (g : Int → Int) (q : Int) : Int × Int := if md_in q 0 (g 2 - 1) = false then (1, 0) else (0, g (156 + q))
def md_q_fl (g : Int → Int) : Int × Int := (0, jk_sum (fun l => md_T g l * g (56 + l)) (g 1).toNat)
def md_q_tc (g : Int → Int) : Int × Int := (0, jk_sum (fun p => if md_Ro g p = p then 1 else 0) (g 0).toNat)
def md_q_lo (g : Int → Int) : Int × Int := (0, jk_sum (fun l => jB (md_clo g (md_T g) l)) (g 1).toNat)
def md_laP (g : Int → Int) (p : Int) : Int → Bool := fun l => md_clo g (md_T g) l && decide (jk_sum (fun j => jB (md_clo g (md_T g) j)) l.toNat = p)
def md_q_la (g : Int → Int) (p : Int) : Int × Int := if jk_fnd (md_laP g p) (g 1).toNat = -1 then (1, 0) else (0, jk_fnd (md_laP g p) (g 1).toNat)
theorem md_sumB (P : Int → Bool) (k : Nat) : 0 ≤ jk_sum (fun j => jB (P j)) k ∧ jk_sum (fun j => jB (P j)) k ≤ (k : Int) := by
  have h := jk_sum_bd2 (f := fun j => jB (P j)) (a := 0) (b := 1) k (fun i _ _ => by rcases jB_01 (P i) with h | h <;> rw [h] <;> decide)
  omega
end MD14
