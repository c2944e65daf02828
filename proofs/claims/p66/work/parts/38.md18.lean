section MD18
/-- the divisions that the two averages ask for give numbers -/
def md_fp : Prop := (∀ s c : Int, 0 ≤ s ∧ s ≤ 800 → 1 ≤ c ∧ c ≤ 16 → vf_n64 (FP.ddiv (FP.i2d (Int32.ofInt s)) (FP.i2d (Int32.ofInt c)))) ∧ ∀ s c : Int, 0 ≤ s ∧ s ≤ 16 → 1 ≤ c ∧ c ≤ 16 → vf_n32 (FP.fdiv (FP.i2f (Int32.ofInt s)) (FP.i2f (Int32.ofInt c)))
def md_lsum (g : Int → Int) : Int := jk_sum (fun l => if md_good g l = true then g (56 + l) else 0) (g 1).toNat
def md_q_ml (g : Int → Int) : Int × Value := if md_goods g = 0 then (1, .double FP.dconst0) else (0, .double (FP.ddiv (FP.i2d (Int32.ofInt (md_lsum g))) (FP.i2d (Int32.ofInt (md_goods g)))))
def md_q_sr (g : Int → Int) : Int × Value := if g 1 = 0 then (1, .float FP.fconst0) else (0, .float (FP.fdiv (FP.i2f (Int32.ofInt (md_goods g))) (FP.i2f (Int32.ofInt (g 1)))))
theorem md_qv {n : Nat} {t : jk_T} {σ σ' : jk_I} {ρ : jk_P} {m : Nat} {O : Int → Int} {r : Int × Value} {k : Int} {v : Value} (hr : r = (k, v)) (hp : md_post m σ σ' O k) : md_Q m σ O n t ρ r.1 r.2 (some v) n t σ' ρ := by subst hr; exact ⟨rfl, rfl, rfl, rfl, hp⟩
theorem md_goods_bd {B : Int} {g : Int → Int} (hi : md_inv B g) : 0 ≤ md_goods g ∧ md_goods g ≤ 16 := by
  have h := md_sumB (fun l => md_good g l) (g 1).toNat
  have := hi.2.1
  unfold md_goods; omega
theorem md_lsum_bd {B : Int} {g : Int → Int} (hi : md_inv B g) : 0 ≤ md_lsum g ∧ md_lsum g ≤ 800 := by
  have h := jk_sum_bd2 (f := fun l => if md_good g l = true then g (56 + l) else 0) (a := 0) (b := 50) (g 1).toNat (fun i h1 h2 => by
    have hc := (md_inv_ln hi (l := i) ⟨h1, by have := hi.2.1; omega⟩).2.2.1
    split <;> omega)
  have := hi.2.1
  unfold md_lsum; omega
end MD18
