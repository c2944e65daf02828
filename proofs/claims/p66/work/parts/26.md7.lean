section MD7
def md_rp (g T : Int → Int) (s : md_SS) (l : Int) : md_SS :=
  if T l = 1 ∧ s.1 (g (24 + l)) ≠ s.1 (g (40 + l)) then (jk_set (jk_set s.1 (g (24 + l)) 1) (g (40 + l)) 1, jk_set s.2 (if s.1 (g (24 + l)) = 0 then g (24 + l) else g (40 + l)) l) else s
def md_rl (g T : Int → Int) : Nat → md_SS → md_SS
  | 0, s => s
  | k + 1, s => md_rp g T (md_rl g T k s) (k : Int)
def md_r0 (f : Int) : md_SS := (fun p => if 0 ≤ p ∧ p < 10 then (if p = f then 1 else 0) else 0, fun p => if 0 ≤ p ∧ p < 10 then -1 else 0)
def md_rr (g T : Int → Int) (f : Int) : Nat → md_SS
  | 0 => md_r0 f
  | j + 1 => md_rl g T (g 1).toNat (md_rr g T f j)
/-- who is reached from f, and by which line -/
def md_reach (g T : Int → Int) (f : Int) : md_SS := md_rr g T f 10
theorem md_rp_kb {g T : Int → Int} {s : md_SS} (h : md_kb s.1) (l : Int) : md_kb (md_rp g T s l).1 := by
  unfold md_rp; split
  · exact md_set_kb (md_set_kb h _) _
  · exact h
theorem md_rl_kb {g T : Int → Int} {s : md_SS} (h : md_kb s.1) : ∀ k, md_kb (md_rl g T k s).1
  | 0 => h
  | k + 1 => md_rp_kb (md_rl_kb h k) _
theorem md_r0_kb (f : Int) : md_kb (md_r0 f).1 := fun p hp => by
  show (if _ then _ else _) = _ ∨ (if _ then _ else _) = _
  rw [if_pos hp]
  split
  · exact Or.inr rfl
  · exact Or.inl rfl
theorem md_rr_kb (g T : Int → Int) (f : Int) : ∀ j, md_kb (md_rr g T f j).1
  | 0 => md_r0_kb f
  | j + 1 => md_rl_kb (md_rr_kb g T f j) _
theorem jk_r3 {α : Type} (f : Nat → Int → α) {a b c : Nat} (x y z : Int → α) (h1 : a ≠ b) (h2 : a ≠ c) : jk_row (jk_row (jk_row f a x) b y) c z = jk_row (jk_row (jk_row f b y) c z) a x := by
  rw [jk_row_comm f x y h1, jk_row_comm _ x z h2]
/-- a step back along the lines by which points were reached -/
def md_stp (g rb : Int → Int) (s : Int × (Int → Int)) : Int × (Int → Int) := (if g (24 + rb s.1) = s.1 then g (40 + rb s.1) else g (24 + rb s.1), jk_set s.2 (rb s.1) (if g (24 + rb s.1) = s.1 then 1 else -1))
def md_wlk (g rb : Int → Int) (p0 : Int) : Nat → Int × (Int → Int)
  | 0 => (p0, fun _ => 0)
  | i + 1 => md_stp g rb (md_wlk g rb p0 i)
def md_cw (g rb : Int → Int) (q : Int) : Nat → Int × (Int → Int) → Int × (Int → Int)
  | 0, s => s
  | f + 1, s => if s.1 = q then s else md_cw g rb q f (md_stp g rb s)
/-- J steps lead from p0 to q -/
def md_ok (g rb : Int → Int) (p0 q : Int) (J : Nat) : Prop := J ≤ 10 ∧ (md_wlk g rb p0 J).1 = q ∧ ∀ i, i < J → (md_wlk g rb p0 i).1 ≠ q ∧ (0 ≤ (md_wlk g rb p0 i).1 ∧ (md_wlk g rb p0 i).1 < 10) ∧ 0 ≤ rb (md_wlk g rb p0 i).1 ∧ rb (md_wlk g rb p0 i).1 < 16
theorem md_cw_q {g rb : Int → Int} {q : Int} {s : Int × (Int → Int)} (h : s.1 = q) : ∀ f, md_cw g rb q f s = s
  | 0 => rfl
  | f + 1 => if_pos h
theorem md_cw_eq {g rb : Int → Int} {p0 q : Int} {J : Nat} (h : md_ok g rb p0 q J) : ∀ d i e : Nat, i + d = J → md_cw g rb q (d + e) (md_wlk g rb p0 i) = md_wlk g rb p0 J
  | 0, i, e, hi => by
    have : i = J := by omega
    subst this
    exact md_cw_q h.2.1 _
  | d + 1, i, e, hi => by
    rw [show d + 1 + e = (d + e) + 1 by omega]
    show (if _ then _ else _) = _
    rw [if_neg (h.2.2 i (by omega)).1]
    exact md_cw_eq h d (i + 1) e (by omega)
/-- the signs of the lines of the loop that line l closes -/
def md_sgn (g T : Int → Int) (l : Int) : Int → Int := jk_set (md_cw g (md_reach g T (g (24 + l))).2 (g (24 + l)) 10 (g (40 + l), fun _ => 0)).2 l 1
end MD7
