section CB2
theorem cm_sum_add (f : Int → Int) (m : Nat) : ∀ n : Nat, jk_sum f (m + n) = jk_sum f m + jk_sum (fun i => f (i + (m : Int))) n
  | 0 => by show jk_sum f m = jk_sum f m + 0; omega
  | n + 1 => by
    show jk_sum f (m + n) + f ((m + n : Nat) : Int) = jk_sum f m + (jk_sum (fun i => f (i + (m : Int))) n + f ((n : Int) + (m : Int)))
    rw [cm_sum_add f m n, show ((m + n : Nat) : Int) = (n : Int) + (m : Int) by omega]; omega
theorem cm_sum_z {f : Int → Int} (n : Nat) (h : ∀ i, 0 ≤ i → i < (n : Int) → f i = 0) : jk_sum f n = 0 := by
  have := jk_sum_cong (f := f) (f2 := fun _ => 0) n h
  rw [this, cm_sum0]
/-- a sum over a range, among others that are 0 -/
theorem cm_sum_in (f : Int → Int) (a b : Int) (n : Nat) (ha : 0 ≤ a) (hab : a ≤ b + 1) (hb : b < (n : Int)) : jk_sum (fun c => if a ≤ c ∧ c ≤ b then f c else 0) n = jk_sum (fun i => f (a + i)) (b - a + 1).toNat := by
  have e : n = a.toNat + ((b - a + 1).toNat + (n - (b + 1).toNat)) := by omega
  rw [e, cm_sum_add, cm_sum_add]
  rw [cm_sum_z a.toNat (fun i h0 h1 => if_neg (by omega))]
  rw [cm_sum_z (n - (b + 1).toNat) (fun i h0 h1 => if_neg (by omega))]
  rw [jk_sum_cong (f := fun i => (if a ≤ i + ((a.toNat : Nat) : Int) ∧ i + ((a.toNat : Nat) : Int) ≤ b then f (i + ((a.toNat : Nat) : Int)) else 0)) (f2 := fun i => f (a + i)) (b - a + 1).toNat (fun i h0 h1 => by rw [if_pos (by omega), show i + ((a.toNat : Nat) : Int) = a + i by omega])]
  omega
def cb_wt (g : Int → Int) (q sf c : Int) : Bool := decide (md_off g q c < sf)
def cb_wcF (g : Int → Int) (q sf F : Int) (N : Nat) : Int := jk_sum (fun i => jB (cb_wt g q sf (F + i))) N
def cb_wc (g : Int → Int) (q sf : Int) : Int := if 0 < g (156 + q) then cb_wcF g q sf (md_Ds g q 0) (md_Ds g q (g (156 + q) - 1) - md_Ds g q 0 + 1).toNat else 0
def cb_shF (g : Int → Int) (q sf F : Int) (N : Nat) : Int := jk_sum (fun i => jB (cb_wt g q sf (F + i) != cb_wt g q sf (F + i + 1))) N
def cb_sh (g : Int → Int) (q sf : Int) : Int := if 0 < g (156 + q) then cb_shF g q sf (md_Ds g q 0) (md_Ds g q (g (156 + q) - 1) - md_Ds g q 0).toNat else 0
/-- the steps below n that are at most m -/
theorem cb_cnt (m : Int) : ∀ n : Nat, jk_sum (fun t => jB (decide (t ≤ m))) n = if m + 1 < 0 then 0 else if (n : Int) < m + 1 then (n : Int) else m + 1
  | 0 => by show (0 : Int) = _; (repeat' split) <;> omega
  | n + 1 => by
    show jk_sum (fun t => jB (decide (t ≤ m))) n + jB (decide ((n : Int) ≤ m)) = _
    rw [cb_cnt m n]
    by_cases h : (n : Int) ≤ m
    · rw [decide_eq_true h, jB_t]; (repeat' split) <;> omega
    · rw [decide_eq_false h, jB_f]; (repeat' split) <;> omega
def cb_seg (span rise depth : Int) : Int := jk_sum (fun t => jB (decide (rise * t < depth * span))) span.toNat
theorem cb_seg_0 {span depth : Int} (hs : 0 < span) : cb_seg span 0 depth = if 0 < depth then span else 0 := by
  unfold cb_seg
  by_cases h : 0 < depth
  · rw [if_pos h, jk_sum_cong (f2 := fun _ => 1) span.toNat (fun t _ _ => by rw [decide_eq_true (by rw [Int.zero_mul]; exact Int.mul_pos h hs)]; rfl), cm_sum1]; omega
  · rw [if_neg h]
    exact cm_sum_z _ (fun t _ _ => by
      have : depth * span ≤ 0 * span := Int.mul_le_mul_of_nonneg_right (by omega) (by omega)
      rw [decide_eq_false (by rw [Int.zero_mul]; omega)]; rfl)
theorem cb_seg_p {span rise depth : Int} (hs : 0 < span) (hr : 0 < rise) : cb_seg span rise depth = if (depth * span - 1) / rise + 1 < 0 then 0 else if span < (depth * span - 1) / rise + 1 then span else (depth * span - 1) / rise + 1 := by
  unfold cb_seg
  rw [jk_sum_cong (f2 := fun t => jB (decide (t ≤ (depth * span - 1) / rise))) span.toNat (fun t _ _ => by
    congr 1
    refine decide_eq_decide.mpr ?_
    rw [Int.le_ediv_iff_mul_le hr, Int.mul_comm t rise]; omega), cb_cnt, show ((span.toNat : Nat) : Int) = span by omega]
theorem cb_seg_n {span rise depth : Int} (hs : 0 < span) (hr : rise < 0) : cb_seg span rise depth = span - (if (-depth * span) / (-rise) + 1 < 0 then 0 else if span < (-depth * span) / (-rise) + 1 then span else (-depth * span) / (-rise) + 1) := by
  have h1 : cb_seg span rise depth = jk_sum (fun t => 1 - jB (decide (t ≤ (-depth * span) / (-rise)))) span.toNat := by
    unfold cb_seg
    refine jk_sum_cong span.toNat (fun t _ _ => ?_)
    have e : (t ≤ (-depth * span) / (-rise)) ↔ ¬ (rise * t < depth * span) := by
      rw [Int.le_ediv_iff_mul_le (show 0 < -rise by omega), Int.mul_neg, Int.mul_comm t rise, Int.neg_mul]; omega
    by_cases h : rise * t < depth * span
    · rw [decide_eq_true h, decide_eq_false (fun q => e.mp q h)]; rfl
    · rw [decide_eq_false h, decide_eq_true (e.mpr h)]; rfl
  have h2 : ∀ n : Nat, jk_sum (fun t => 1 - jB (decide (t ≤ (-depth * span) / (-rise)))) n = (n : Int) - jk_sum (fun t => jB (decide (t ≤ (-depth * span) / (-rise)))) n := by
    intro n
    induction n with
    | zero => rfl
    | succ n ih => show jk_sum _ n + (1 - jB _) = ((n + 1 : Nat) : Int) - (jk_sum _ n + jB _); rw [ih]; omega
  rw [h1, h2, cb_cnt, show ((span.toNat : Nat) : Int) = span by omega]
theorem cb_mono {g : Int → Int} {q : Int} (x2 : ∀ s, 0 ≤ s ∧ s + 1 < g (156 + q) → md_Ds g q s < md_Ds g q (s + 1)) (a : Int) (ha : 0 ≤ a) : ∀ k : Nat, a + (k : Int) < g (156 + q) → md_Ds g q a + (k : Int) ≤ md_Ds g q (a + (k : Int))
  | 0, _ => by rw [show a + ((0 : Nat) : Int) = a by omega]; omega
  | k + 1, h => by
    have h1 := cb_mono x2 a ha k (by omega)
    have h2 := x2 (a + (k : Int)) ⟨by omega, by omega⟩
    rw [show a + ((k + 1 : Nat) : Int) = a + (k : Int) + 1 by omega]; omega
/-- the offset within segment j -/
theorem cb_off {g : Int → Int} {q : Int} {j : Nat} {t : Int} (x2 : ∀ s, 0 ≤ s ∧ s + 1 < g (156 + q) → md_Ds g q s < md_Ds g q (s + 1)) (hst : g (156 + q) ≤ 10) (hj : (j : Int) + 1 < g (156 + q)) (ht : 0 ≤ t ∧ t < md_Ds g q ((j : Int) + 1) - md_Ds g q (j : Int)) : md_off g q (md_Ds g q (j : Int) + t) = g (200 + 10 * q + (j : Int)) + ((g (200 + 10 * q + (j : Int) + 1) - g (200 + 10 * q + (j : Int))) * t) / (md_Ds g q ((j : Int) + 1) - md_Ds g q (j : Int)) := by
  unfold md_off
  rw [cb_stn (i := j) (by omega) (fun k hk => ⟨by omega, by
    have := cb_mono x2 ((k : Int) + 1) (by omega) (j - k - 1) (by omega)
    rw [show (k : Int) + 1 + ((j - k - 1 : Nat) : Int) = (j : Int) by omega] at this; omega⟩) (by omega), if_neg (by omega), show md_Ds g q (j : Int) + t - md_Ds g q (j : Int) = t by omega]
theorem cb_offl {g : Int → Int} {q : Int} (x2 : ∀ s, 0 ≤ s ∧ s + 1 < g (156 + q) → md_Ds g q s < md_Ds g q (s + 1)) (hst : 1 ≤ g (156 + q) ∧ g (156 + q) ≤ 10) : md_off g q (md_Ds g q (g (156 + q) - 1)) = g (200 + 10 * q + (g (156 + q) - 1)) := by
  have e : ((g (156 + q) - 1).toNat : Int) = g (156 + q) - 1 := by omega
  have := cb_stn (g := g) (q := q) (c := md_Ds g q (g (156 + q) - 1)) (i := (g (156 + q) - 1).toNat) (by omega) (fun k hk => ⟨by omega, by
    have := cb_mono x2 ((k : Int) + 1) (by omega) ((g (156 + q) - 1).toNat - k - 1) (by omega)
    rw [show (k : Int) + 1 + (((g (156 + q) - 1).toNat - k - 1 : Nat) : Int) = g (156 + q) - 1 by omega] at this; omega⟩) (by omega)
  unfold md_off
  rw [this, e, if_pos rfl]
def cb_sg (g : Int → Int) (q sf j : Int) : Int := cb_seg (md_Ds g q (j + 1) - md_Ds g q j) (g (200 + 10 * q + j + 1) - g (200 + 10 * q + j)) (sf - g (200 + 10 * q + j))
theorem cb_tel {g : Int → Int} {q sf : Int} (x2 : ∀ s, 0 ≤ s ∧ s + 1 < g (156 + q) → md_Ds g q s < md_Ds g q (s + 1)) (hst : g (156 + q) ≤ 10) : ∀ j : Nat, (j : Int) < g (156 + q) → cb_wcF g q sf (md_Ds g q 0) (md_Ds g q (j : Int) - md_Ds g q 0).toNat = jk_sum (cb_sg g q sf) j
  | 0, _ => by rw [show md_Ds g q ((0 : Nat) : Int) - md_Ds g q 0 = 0 by show md_Ds g q 0 - md_Ds g q 0 = 0; omega]; rfl
  | j + 1, hj => by
    have ih := cb_tel (sf := sf) x2 hst j (by omega)
    have h0 := cb_mono x2 0 (by omega) j (by omega)
    rw [show (0 : Int) + (j : Int) = (j : Int) by omega] at h0
    have h1 := x2 (j : Int) ⟨by omega, by omega⟩
    have e : (md_Ds g q ((j + 1 : Nat) : Int) - md_Ds g q 0).toNat = (md_Ds g q (j : Int) - md_Ds g q 0).toNat + (md_Ds g q ((j : Int) + 1) - md_Ds g q (j : Int)).toNat := by
      rw [show ((j + 1 : Nat) : Int) = (j : Int) + 1 by omega]; omega
    unfold cb_wcF at ih ⊢
    rw [e, cm_sum_add, ih]
    show jk_sum (cb_sg g q sf) j + _ = jk_sum (cb_sg g q sf) j + cb_sg g q sf (j : Int)
    congr 1
    unfold cb_sg cb_seg
    refine jk_sum_cong _ (fun t ht0 ht1 => ?_)
    have e2 : md_Ds g q 0 + (t + (((md_Ds g q (j : Int) - md_Ds g q 0).toNat : Nat) : Int)) = md_Ds g q (j : Int) + t := by omega
    unfold cb_wt
    rw [e2, cb_off x2 hst (by omega) ⟨ht0, by omega⟩]
    congr 1
    refine decide_eq_decide.mpr ?_
    have h9 := Int.ediv_lt_iff_lt_mul (show 0 < md_Ds g q ((j : Int) + 1) - md_Ds g q (j : Int) by omega) (a := (g (200 + 10 * q + (j : Int) + 1) - g (200 + 10 * q + (j : Int))) * t) (b := sf - g (200 + 10 * q + (j : Int)))
    rw [← h9]; omega
theorem cb_segs {g : Int → Int} {q sf : Int} (x2 : ∀ s, 0 ≤ s ∧ s + 1 < g (156 + q) → md_Ds g q s < md_Ds g q (s + 1)) (hst : 1 ≤ g (156 + q) ∧ g (156 + q) ≤ 10) : cb_wc g q sf = jB (decide (g (200 + 10 * q + (g (156 + q) - 1)) < sf)) + jk_sum (cb_sg g q sf) (g (156 + q) - 1).toNat := by
  unfold cb_wc
  rw [if_pos (by omega)]
  have h1 := cb_tel (sf := sf) x2 hst.2 (g (156 + q) - 1).toNat (by omega)
  rw [show (((g (156 + q) - 1).toNat : Nat) : Int) = g (156 + q) - 1 by omega] at h1
  have h0 := cb_mono x2 0 (by omega) (g (156 + q) - 1).toNat (by omega)
  rw [show (0 : Int) + (((g (156 + q) - 1).toNat : Nat) : Int) = g (156 + q) - 1 by omega] at h0
  rw [← h1, show (md_Ds g q (g (156 + q) - 1) - md_Ds g q 0 + 1).toNat = (md_Ds g q (g (156 + q) - 1) - md_Ds g q 0).toNat + 1 by omega]
  unfold cb_wcF
  show jk_sum _ (md_Ds g q (g (156 + q) - 1) - md_Ds g q 0).toNat + jB (cb_wt g q sf (md_Ds g q 0 + (((md_Ds g q (g (156 + q) - 1) - md_Ds g q 0).toNat : Nat) : Int))) = _
  rw [show md_Ds g q 0 + (((md_Ds g q (g (156 + q) - 1) - md_Ds g q 0).toNat : Nat) : Int) = md_Ds g q (g (156 + q) - 1) by omega]
  unfold cb_wt
  rw [cb_offl x2 hst]; omega
/-- the reference's sums -/
theorem cb_ref {g : Int → Int} {q : Int} (hx : md_inx g) (hq : 0 ≤ q ∧ q < g 2) (hst : g (156 + q) ≤ 10) : (if 0 < g (156 + q) then jk_sum (fun c => jB (md_wetI g q c)) 100 else 0) = cb_wc g q (g 3 - md_HT g (g (152 + q))) ∧ (if 0 < g (156 + q) then jk_sum (fun c => jB (md_sho g q (c + 1))) 99 else 0) = cb_sh g q (g 3 - md_HT g (g (152 + q))) := by
  obtain ⟨x1, x2⟩ := hx q hq
  have hwt : ∀ c, md_wet g q c = cb_wt g q (g 3 - md_HT g (g (152 + q))) c := fun c => by
    unfold md_wet md_gnd cb_wt
    exact decide_eq_decide.mpr (by omega)
  unfold cb_wc cb_sh
  by_cases h : 0 < g (156 + q)
  · rw [if_pos h, if_pos h, if_pos h, if_pos h]
    have a0 := x1 0 ⟨by omega, h⟩
    have a1 := x1 (g (156 + q) - 1) ⟨by omega, by omega⟩
    have h0 := cb_mono x2 0 (by omega) (g (156 + q) - 1).toNat (by omega)
    rw [show (0 : Int) + (((g (156 + q) - 1).toNat : Nat) : Int) = g (156 + q) - 1 by omega] at h0
    refine ⟨?_, ?_⟩
    · unfold cb_wcF
      rw [← cm_sum_in (fun c => jB (cb_wt g q (g 3 - md_HT g (g (152 + q))) c)) (md_Ds g q 0) (md_Ds g q (g (156 + q) - 1)) 100 (by omega) (by omega) (by omega)]
      refine jk_sum_cong 100 (fun c _ _ => ?_)
      unfold md_wetI md_in
      rw [hwt]
      by_cases hc : md_Ds g q 0 ≤ c ∧ c ≤ md_Ds g q (g (156 + q) - 1)
      · rw [if_pos hc, decide_eq_true hc]; rfl
      · rw [if_neg hc, decide_eq_false hc]; rfl
    · unfold cb_shF
      have h9 := cm_sum_in (fun c => jB (cb_wt g q (g 3 - md_HT g (g (152 + q))) c != cb_wt g q (g 3 - md_HT g (g (152 + q))) (c + 1))) (md_Ds g q 0) (md_Ds g q (g (156 + q) - 1) - 1) 99 (by omega) (by omega) (by omega)
      rw [show md_Ds g q (g (156 + q) - 1) - 1 - md_Ds g q 0 + 1 = md_Ds g q (g (156 + q) - 1) - md_Ds g q 0 by omega] at h9
      rw [← h9]
      refine jk_sum_cong 99 (fun c _ _ => ?_)
      unfold md_sho
      rw [hwt, hwt, show c + 1 - 1 = c by omega]
      by_cases hc : md_Ds g q 0 ≤ c ∧ c ≤ md_Ds g q (g (156 + q) - 1) - 1
      · rw [if_pos hc, decide_eq_true (by omega)]
        cases cb_wt g q (g 3 - md_HT g (g (152 + q))) c <;> cases cb_wt g q (g 3 - md_HT g (g (152 + q))) (c + 1) <;> rfl
      · rw [if_neg hc, decide_eq_false (by omega)]; rfl
  · rw [if_neg h, if_neg h, if_neg h, if_neg h]; exact ⟨rfl, rfl⟩
theorem cb_offbd {g : Int → Int} {q c : Int} {B : Int} (hi : md_inv B g) (hx : md_inx g) (hq : 0 ≤ q ∧ q < g 2) (hst : 1 ≤ g (156 + q) ∧ g (156 + q) ≤ 10) (hc : md_Ds g q 0 ≤ c ∧ c ≤ 99) : -400000 ≤ md_off g q c ∧ md_off g q c ≤ 400000 := by
  obtain ⟨x1, x2⟩ := hx q hq
  have i2 := hi.2.2.1
  have hob : ∀ k, 0 ≤ k ∧ k < 10 → -999 ≤ g (200 + 10 * q + k) ∧ g (200 + 10 * q + k) ≤ 999 := fun k hk => hi.2.2.2.2.2.2.2.2 _ ⟨by omega, by omega⟩
  have hs : md_stn g q c ≤ g (156 + q) - 1 := md_ws_bd 10 0 (by omega)
  have hs0 : 0 ≤ md_stn g q c := by unfold md_stn; omega
  have a := hob (md_stn g q c) ⟨hs0, by omega⟩
  unfold md_off
  split
  · omega
  · have b := hob (md_stn g q c + 1) ⟨by omega, by omega⟩
    rw [show 200 + 10 * q + (md_stn g q c + 1) = 200 + 10 * q + md_stn g q c + 1 by omega] at b
    have d := x2 (md_stn g q c) ⟨hs0, by omega⟩
    have d1 := x1 (md_stn g q c) ⟨hs0, by omega⟩
    have d0 := x1 0 ⟨by omega, by omega⟩
    have hc2 : -99 ≤ c - md_Ds g q (md_stn g q c) ∧ c - md_Ds g q (md_stn g q c) ≤ 99 := ⟨by omega, by omega⟩
    have hp : -197802 ≤ (g (200 + 10 * q + md_stn g q c + 1) - g (200 + 10 * q + md_stn g q c)) * (c - md_Ds g q (md_stn g q c)) ∧ (g (200 + 10 * q + md_stn g q c + 1) - g (200 + 10 * q + md_stn g q c)) * (c - md_Ds g q (md_stn g q c)) ≤ 197802 := by
      obtain ⟨u, hu⟩ : ∃ u, u = g (200 + 10 * q + md_stn g q c + 1) - g (200 + 10 * q + md_stn g q c) := ⟨_, rfl⟩
      obtain ⟨w, hw⟩ : ∃ w, w = c - md_Ds g q (md_stn g q c) := ⟨_, rfl⟩
      rw [← hu, ← hw]
      have hu2 : -1998 ≤ u ∧ u ≤ 1998 := by omega
      have hw2 : -99 ≤ w ∧ w ≤ 99 := by omega
      rcases Int.le_total 0 w with h | h
      · have b1 := Int.mul_le_mul_of_nonneg_right hu2.2 h
        have b2 := Int.mul_le_mul_of_nonneg_right hu2.1 h
        omega
      · have b1 := Int.mul_le_mul_of_nonpos_right hu2.2 h
        have b2 := Int.mul_le_mul_of_nonpos_right hu2.1 h
        omega
    have := md_quo_bd (C := 197802) (show 0 < md_Ds g q (md_stn g q c + 1) - md_Ds g q (md_stn g q c) by omega) hp
    omega
theorem c_X1_wetByColumns {G : jk_G} {n : Nat} {t : jk_T} {σ : jk_I} {ρ : jk_P} {b s q : Nat} {g : Int → Int} {B sf : Int} (hba : ba_at t ρ b s) (hr : cl_rel σ s g) (hi : md_inv B g) (hx : md_inx g) (hnn : cl_nn σ s) (hq : (q : Int) < g 2) (hsf : -20000000 ≤ sf ∧ sf ≤ 20000000) : jk_K G yX1_wetByColumns mX1_wetByColumns 0 0 [.ref b, jI (q : Int), jI sf] n t σ ρ (jk_q (some (jI (cb_wc g (q : Int) sf))) n t σ ρ) jk_no := by
  obtain ⟨-, hs, hsb⟩ := id hba
  have i2 := hi.2.2.1
  have hq4 : q < 4 := by omega
  obtain ⟨r1, r2, r3⟩ := hr.2.2.2 q hq
  obtain ⟨x1, x2⟩ := hx (q : Int) ⟨by omega, hq⟩
  have hst := (hi.2.2.2.2.2.2.2.1 (q : Int) ⟨by omega, by omega⟩).1
  have hnq := hnn q hq4
  have hdl : -1 ≤ (if 0 < g (156 + (q : Int)) then md_Ds g (q : Int) (g (156 + (q : Int)) - 1) else -1) ∧ (if 0 < g (156 + (q : Int)) then md_Ds g (q : Int) (g (156 + (q : Int)) - 1) else -1) ≤ 99 := by
    split
    · have := x1 (g (156 + (q : Int)) - 1) ⟨by omega, by omega⟩; omega
    · omega
  have hd0 : 0 < g (156 + (q : Int)) → σ (s + (28 + 2 * q)) 0 = md_Ds g (q : Int) 0 := fun h => by unfold md_Ds; exact (r3 0 ⟨by omega, h⟩).1
  have hst9 : ∀ c, (σ (s + (28 + 2 * q)) 0) ≤ c → c ≤ (if 0 < g (156 + (q : Int)) then md_Ds g (q : Int) (g (156 + (q : Int)) - 1) else -1) → 1 ≤ g (156 + (q : Int)) ∧ md_Ds g (q : Int) 0 ≤ c ∧ c ≤ 99 := fun c h1 h2 => by
    by_cases h : 0 < g (156 + (q : Int))
    · have e0 := hd0 h
      exact ⟨by omega, by omega, by omega⟩
    · rw [if_neg h] at h2; omega
  refine jk_entryB (ls := [some (.ref b), some (jI (q : Int)), some (jI sf), none, none, none]) jm_X1_wetByColumns.1 rfl rfl rfl ?_
  refine jk_aload_n (q := 1) dX1_wetByColumns_0 rfl rfl ?_
  refine jk_iload_n (q := 2) dX1_wetByColumns_1 rfl rfl ?_
  refine jk_cV1p (q := 5) (c_X1_lastColumn hba hr hi hx hnn hq) jm_X1_lastColumn jw_1090 rfl (by first | exact hba.1.1 | exact hs.1 | exact hs.2.1 _ _ rfl | exact (cl_rows hs hq4).1 | exact (cl_rows hs hq4).2 | assumption) rfl rfl rfl dX1_wetByColumns_2 rfl ?_
  refine jk_istore3 (q := 6) dX1_wetByColumns_5 rfl rfl rfl ?_
  refine jk_iconst (q := 7) dX1_wetByColumns_6 rfl ?_
  refine jk_istore4 (q := 9) dX1_wetByColumns_7 rfl rfl rfl ?_
  refine jk_aload_n (q := 10) dX1_wetByColumns_9 rfl rfl ?_
  refine jk_iload_n (q := 11) dX1_wetByColumns_10 rfl rfl ?_
  refine jk_cV1p (q := 14) (c_X1_firstColumn hba hr hi hx hnn hq) jm_X1_firstColumn jw_1086 rfl (by first | exact hba.1.1 | exact hs.1 | exact hs.2.1 _ _ rfl | exact (cl_rows hs hq4).1 | exact (cl_rows hs hq4).2 | assumption) rfl rfl rfl dX1_wetByColumns_11 rfl ?_
  refine jk_istore5 (q := 16) dX1_wetByColumns_14 rfl rfl rfl ?_
  have L16 : ∀ k16 : Nat, k16 ≤ ((if 0 < g (156 + (q : Int)) then md_Ds g (q : Int) (g (156 + (q : Int)) - 1) else -1) - (σ (s + (28 + 2 * q)) 0) + 1).toNat → jk_J G mX1_wetByColumns 16 [some (.ref b), some (jI (q : Int)), some (jI sf), some (jI (if 0 < g (156 + (q : Int)) then md_Ds g (q : Int) (g (156 + (q : Int)) - 1) else -1)), some (jI (cb_wcF g (q : Int) sf (σ (s + (28 + 2 * q)) 0) k16)), some (jI ((σ (s + (28 + 2 * q)) 0) + (k16 : Int)))] [] n t σ ρ 0 0 (jk_q (some (jI (cb_wc g (q : Int) sf))) n t σ ρ) jk_no := by
    refine jk_loop _ (fun k16 hk16 ih16 => ?_)
    refine jk_iload (q := 18) dX1_wetByColumns_16 rfl rfl ?_
    refine jk_iload_n (q := 19) dX1_wetByColumns_18 rfl rfl ?_
    refine jk_icmp_gt (q := 49) (q2 := 22) dX1_wetByColumns_19 rfl rfl (by first | assumption | decide | omega | exact jB_01 _ | exact jB_in _ | exact ⟨by omega, by omega⟩) (by first | assumption | decide | omega | exact jB_01 _ | exact jB_in _ | exact ⟨by omega, by omega⟩) (fun z1 => ?_) (fun z1 => ?_)
    · refine jk_iload (q := 51) dX1_wetByColumns_49 rfl rfl ?_
      exact jk_iret rfl dX1_wetByColumns_51 (by refine jk_qI ?_; rw [show k16 = ((if 0 < g (156 + (q : Int)) then md_Ds g (q : Int) (g (156 + (q : Int)) - 1) else -1) - (σ (s + (28 + 2 * q)) 0) + 1).toNat by omega]; unfold cb_wc; by_cases h : 0 < g (156 + (q : Int)); (rw [if_pos h, hd0 h, if_pos h]); (rw [if_neg h, if_neg h, show (-1 - (σ (s + (28 + 2 * q)) 0) + 1).toNat = 0 by omega]; rfl))
    · have hcc := hst9 ((σ (s + (28 + 2 * q)) 0) + (k16 : Int)) (by omega) (by omega)
      refine jk_iload (q := 24) dX1_wetByColumns_22 rfl rfl ?_
      refine jk_aload_n (q := 25) dX1_wetByColumns_24 rfl rfl ?_
      refine jk_iload_n (q := 26) dX1_wetByColumns_25 rfl rfl ?_
      refine jk_iload (q := 28) dX1_wetByColumns_26 rfl rfl ?_
      refine jk_cV2p (q := 31) (c_X1_offsetAt hba hr hi hx hnn hq hcc.1 hcc.2) jm_X1_offsetAt jw_1115 rfl (by first | exact hba.1.1 | exact hs.1 | exact hs.2.1 _ _ rfl | exact (cl_rows hs hq4).1 | exact (cl_rows hs hq4).2 | assumption) rfl rfl rfl dX1_wetByColumns_28 rfl ?_
      have hob9 := cb_offbd hi hx ⟨by omega, hq⟩ ⟨hcc.1, hst.2⟩ hcc.2
      refine jk_iload_n (q := 32) dX1_wetByColumns_31 rfl rfl ?_
      refine jk_icmp_ge (q := 39) (q2 := 35) dX1_wetByColumns_32 rfl rfl (by first | assumption | decide | omega | exact jB_01 _ | exact jB_in _ | exact ⟨by omega, by omega⟩) (by first | assumption | decide | omega | exact jB_01 _ | exact jB_in _ | exact ⟨by omega, by omega⟩) (fun z2 => ?_) (fun z2 => ?_)
      · refine jk_iconst (q := 40) dX1_wetByColumns_39 rfl ?_
        refine jk_iadd (q := 41) dX1_wetByColumns_40 rfl ?_
        refine jk_istore4 (q := 43) dX1_wetByColumns_41 rfl rfl rfl ?_
        refine jk_iinc5 (q := 46) dX1_wetByColumns_43 rfl rfl rfl ?_
        refine jk_goto (q := 16) dX1_wetByColumns_46 rfl ?_
        refine jk_convw (ih16 (by omega)) (jk_wkS rfl (jk_wkS rfl (jk_wkS rfl (jk_wkS rfl (jk_wkS (jk_li ?_) (jk_wkS (jk_li (by omega)) jk_wk0))))))
        show cb_wcF g (q : Int) sf (σ (s + (28 + 2 * q)) 0) k16 + jB (cb_wt g (q : Int) sf ((σ (s + (28 + 2 * q)) 0) + (k16 : Int))) = _
        unfold cb_wt
        first | (rw [decide_eq_true (by omega)]; rfl) | (rw [decide_eq_false (by omega)]; rfl)
      · refine jk_iconst (q := 36) dX1_wetByColumns_35 rfl ?_
        refine jk_goto (q := 40) dX1_wetByColumns_36 rfl ?_
        refine jk_iadd (q := 41) dX1_wetByColumns_40 rfl ?_
        refine jk_istore4 (q := 43) dX1_wetByColumns_41 rfl rfl rfl ?_
        refine jk_iinc5 (q := 46) dX1_wetByColumns_43 rfl rfl rfl ?_
        refine jk_goto (q := 16) dX1_wetByColumns_46 rfl ?_
        refine jk_convw (ih16 (by omega)) (jk_wkS rfl (jk_wkS rfl (jk_wkS rfl (jk_wkS rfl (jk_wkS (jk_li ?_) (jk_wkS (jk_li (by omega)) jk_wk0))))))
        show cb_wcF g (q : Int) sf (σ (s + (28 + 2 * q)) 0) k16 + jB (cb_wt g (q : Int) sf ((σ (s + (28 + 2 * q)) 0) + (k16 : Int))) = _
        unfold cb_wt
        first | (rw [decide_eq_true (by omega)]; rfl) | (rw [decide_eq_false (by omega)]; rfl)
  exact jk_convw (L16 0 (Nat.zero_le _)) (jk_wkS rfl (jk_wkS rfl (jk_wkS rfl (jk_wkS rfl (jk_wkS rfl (jk_wkS (jk_li (by omega)) jk_wk0))))))
theorem c_X1_shoreLines {G : jk_G} {n : Nat} {t : jk_T} {σ : jk_I} {ρ : jk_P} {b s q : Nat} {g : Int → Int} {B sf : Int} (hba : ba_at t ρ b s) (hr : cl_rel σ s g) (hi : md_inv B g) (hx : md_inx g) (hnn : cl_nn σ s) (hq : (q : Int) < g 2) (hsf : -20000000 ≤ sf ∧ sf ≤ 20000000) : jk_K G yX1_shoreLines mX1_shoreLines 0 0 [.ref b, jI (q : Int), jI sf] n t σ ρ (jk_q (some (jI (cb_sh g (q : Int) sf))) n t σ ρ) jk_no := by
  obtain ⟨-, hs, hsb⟩ := id hba
  have i2 := hi.2.2.1
  have hq4 : q < 4 := by omega
  obtain ⟨r1, r2, r3⟩ := hr.2.2.2 q hq
  obtain ⟨x1, x2⟩ := hx (q : Int) ⟨by omega, hq⟩
  have hst := (hi.2.2.2.2.2.2.2.1 (q : Int) ⟨by omega, by omega⟩).1
  have hnq := hnn q hq4
  have hdl : -1 ≤ (if 0 < g (156 + (q : Int)) then md_Ds g (q : Int) (g (156 + (q : Int)) - 1) else -1) ∧ (if 0 < g (156 + (q : Int)) then md_Ds g (q : Int) (g (156 + (q : Int)) - 1) else -1) ≤ 99 := by
    split
    · have := x1 (g (156 + (q : Int)) - 1) ⟨by omega, by omega⟩; omega
    · omega
  have hd0 : 0 < g (156 + (q : Int)) → σ (s + (28 + 2 * q)) 0 = md_Ds g (q : Int) 0 := fun h => by unfold md_Ds; exact (r3 0 ⟨by omega, h⟩).1
  have hst9 : ∀ c, (σ (s + (28 + 2 * q)) 0) ≤ c → c ≤ (if 0 < g (156 + (q : Int)) then md_Ds g (q : Int) (g (156 + (q : Int)) - 1) else -1) → 1 ≤ g (156 + (q : Int)) ∧ md_Ds g (q : Int) 0 ≤ c ∧ c ≤ 99 := fun c h1 h2 => by
    by_cases h : 0 < g (156 + (q : Int))
    · have e0 := hd0 h
      exact ⟨by omega, by omega, by omega⟩
    · rw [if_neg h] at h2; omega
  refine jk_entryB (ls := [some (.ref b), some (jI (q : Int)), some (jI sf), none, none, none, none, none]) jm_X1_shoreLines.1 rfl rfl rfl ?_
  refine jk_aload_n (q := 1) dX1_shoreLines_0 rfl rfl ?_
  refine jk_iload_n (q := 2) dX1_shoreLines_1 rfl rfl ?_
  refine jk_cV1p (q := 5) (c_X1_lastColumn hba hr hi hx hnn hq) jm_X1_lastColumn jw_1090 rfl (by first | exact hba.1.1 | exact hs.1 | exact hs.2.1 _ _ rfl | exact (cl_rows hs hq4).1 | exact (cl_rows hs hq4).2 | assumption) rfl rfl rfl dX1_shoreLines_2 rfl ?_
  refine jk_istore3 (q := 6) dX1_shoreLines_5 rfl rfl rfl ?_
  refine jk_iconst (q := 7) dX1_shoreLines_6 rfl ?_
  refine jk_istore4 (q := 9) dX1_shoreLines_7 rfl rfl rfl ?_
  refine jk_aload_n (q := 10) dX1_shoreLines_9 rfl rfl ?_
  refine jk_iload_n (q := 11) dX1_shoreLines_10 rfl rfl ?_
  refine jk_cV1p (q := 14) (c_X1_firstColumn hba hr hi hx hnn hq) jm_X1_firstColumn jw_1086 rfl (by first | exact hba.1.1 | exact hs.1 | exact hs.2.1 _ _ rfl | exact (cl_rows hs hq4).1 | exact (cl_rows hs hq4).2 | assumption) rfl rfl rfl dX1_shoreLines_11 rfl ?_
  refine jk_istore5 (q := 16) dX1_shoreLines_14 rfl rfl rfl ?_
  have L16 : ∀ k16 : Nat, k16 ≤ ((if 0 < g (156 + (q : Int)) then md_Ds g (q : Int) (g (156 + (q : Int)) - 1) else -1) - (σ (s + (28 + 2 * q)) 0)).toNat → jk_J G mX1_shoreLines 16 [some (.ref b), some (jI (q : Int)), some (jI sf), some (jI (if 0 < g (156 + (q : Int)) then md_Ds g (q : Int) (g (156 + (q : Int)) - 1) else -1)), some (jI (cb_shF g (q : Int) sf (σ (s + (28 + 2 * q)) 0) k16)), some (jI ((σ (s + (28 + 2 * q)) 0) + (k16 : Int))), none, none] [] n t σ ρ 0 0 (jk_q (some (jI (cb_sh g (q : Int) sf))) n t σ ρ) jk_no := by
    refine jk_loop _ (fun k16 hk16 ih16 => ?_)
    refine jk_iload (q := 18) dX1_shoreLines_16 rfl rfl ?_
    refine jk_iload_n (q := 19) dX1_shoreLines_18 rfl rfl ?_
    refine jk_icmp_ge (q := 83) (q2 := 22) dX1_shoreLines_19 rfl rfl (by first | assumption | decide | omega | exact jB_01 _ | exact jB_in _ | exact ⟨by omega, by omega⟩) (by first | assumption | decide | omega | exact jB_01 _ | exact jB_in _ | exact ⟨by omega, by omega⟩) (fun z1 => ?_) (fun z1 => ?_)
    · refine jk_iload (q := 85) dX1_shoreLines_83 rfl rfl ?_
      exact jk_iret rfl dX1_shoreLines_85 (by refine jk_qI ?_; rw [show k16 = ((if 0 < g (156 + (q : Int)) then md_Ds g (q : Int) (g (156 + (q : Int)) - 1) else -1) - (σ (s + (28 + 2 * q)) 0)).toNat by omega]; unfold cb_sh; by_cases h : 0 < g (156 + (q : Int)); (rw [if_pos h, hd0 h, if_pos h]); (rw [if_neg h, if_neg h, show (-1 - (σ (s + (28 + 2 * q)) 0)).toNat = 0 by omega]; rfl))
    · have hcc := hst9 ((σ (s + (28 + 2 * q)) 0) + (k16 : Int)) (by omega) (by omega)
      have hcd := hst9 ((σ (s + (28 + 2 * q)) 0) + (k16 : Int) + 1) (by omega) (by omega)
      refine jk_aload_n (q := 23) dX1_shoreLines_22 rfl rfl ?_
      refine jk_iload_n (q := 24) dX1_shoreLines_23 rfl rfl ?_
      refine jk_iload (q := 26) dX1_shoreLines_24 rfl rfl ?_
      refine jk_cV2p (q := 29) (c_X1_offsetAt hba hr hi hx hnn hq hcc.1 hcc.2) jm_X1_offsetAt jw_1115 rfl (by first | exact hba.1.1 | exact hs.1 | exact hs.2.1 _ _ rfl | exact (cl_rows hs hq4).1 | exact (cl_rows hs hq4).2 | assumption) rfl rfl rfl dX1_shoreLines_26 rfl ?_
      have hob9 := cb_offbd hi hx ⟨by omega, hq⟩ ⟨hcc.1, hst.2⟩ hcc.2
      refine jk_iload_n (q := 30) dX1_shoreLines_29 rfl rfl ?_
      refine jk_icmp_ge (q := 37) (q2 := 33) dX1_shoreLines_30 rfl rfl (by first | assumption | decide | omega | exact jB_01 _ | exact jB_in _ | exact ⟨by omega, by omega⟩) (by first | assumption | decide | omega | exact jB_01 _ | exact jB_in _ | exact ⟨by omega, by omega⟩) (fun z2 => ?_) (fun z2 => ?_)
      · refine jk_iconst (q := 38) dX1_shoreLines_37 rfl ?_
        refine jk_istore6 (q := 40) dX1_shoreLines_38 rfl rfl rfl ?_
        refine jk_aload_n (q := 41) dX1_shoreLines_40 rfl rfl ?_
        refine jk_iload_n (q := 42) dX1_shoreLines_41 rfl rfl ?_
        refine jk_iload (q := 44) dX1_shoreLines_42 rfl rfl ?_
        refine jk_iconst (q := 45) dX1_shoreLines_44 rfl ?_
        refine jk_iadd (q := 46) dX1_shoreLines_45 rfl ?_
        refine jk_cV2p (q := 49) (c_X1_offsetAt hba hr hi hx hnn hq hcd.1 hcd.2) jm_X1_offsetAt jw_1115 rfl (by first | exact hba.1.1 | exact hs.1 | exact hs.2.1 _ _ rfl | exact (cl_rows hs hq4).1 | exact (cl_rows hs hq4).2 | assumption) rfl rfl rfl dX1_shoreLines_46 rfl ?_
        have hob8 := cb_offbd hi hx ⟨by omega, hq⟩ ⟨hcd.1, hst.2⟩ hcd.2
        refine jk_iload_n (q := 50) dX1_shoreLines_49 rfl rfl ?_
        refine jk_icmp_ge (q := 57) (q2 := 53) dX1_shoreLines_50 rfl rfl (by first | assumption | decide | omega | exact jB_01 _ | exact jB_in _ | exact ⟨by omega, by omega⟩) (by first | assumption | decide | omega | exact jB_01 _ | exact jB_in _ | exact ⟨by omega, by omega⟩) (fun z3 => ?_) (fun z3 => ?_)
        · refine jk_iconst (q := 58) dX1_shoreLines_57 rfl ?_
          refine jk_istore7 (q := 60) dX1_shoreLines_58 rfl rfl rfl ?_
          refine jk_iload (q := 62) dX1_shoreLines_60 rfl rfl ?_
          refine jk_iload (q := 64) dX1_shoreLines_62 rfl rfl ?_
          refine jk_iload (q := 66) dX1_shoreLines_64 rfl rfl ?_
          refine jk_icmp_eq (q := 73) (q2 := 69) dX1_shoreLines_66 rfl rfl (by first | assumption | decide | omega | exact jB_01 _ | exact jB_in _ | exact ⟨by omega, by omega⟩) (by first | assumption | decide | omega | exact jB_01 _ | exact jB_in _ | exact ⟨by omega, by omega⟩) (fun z4 => ?_) (fun z4 => ?_)
          · refine jk_iconst (q := 74) dX1_shoreLines_73 rfl ?_
            refine jk_iadd (q := 75) dX1_shoreLines_74 rfl ?_
            refine jk_istore4 (q := 77) dX1_shoreLines_75 rfl rfl rfl ?_
            refine jk_iinc5 (q := 80) dX1_shoreLines_77 rfl rfl rfl ?_
            refine jk_goto (q := 16) dX1_shoreLines_80 rfl ?_
            refine jk_convw (ih16 (by omega)) (jk_wkS rfl (jk_wkS rfl (jk_wkS rfl (jk_wkS rfl (jk_wkS (jk_li ?_) (jk_wkS (jk_li (by omega)) (jk_wkN (jk_wkN jk_wk0))))))))
            show cb_shF g (q : Int) sf (σ (s + (28 + 2 * q)) 0) k16 + jB (cb_wt g (q : Int) sf ((σ (s + (28 + 2 * q)) 0) + (k16 : Int)) != cb_wt g (q : Int) sf ((σ (s + (28 + 2 * q)) 0) + (k16 : Int) + 1)) = _
            unfold cb_wt
            (first | rw [decide_eq_true (show md_off g (q : Int) ((σ (s + (28 + 2 * q)) 0) + (k16 : Int)) < sf by omega)] | rw [decide_eq_false (show ¬ md_off g (q : Int) ((σ (s + (28 + 2 * q)) 0) + (k16 : Int)) < sf by omega)])
            (first | rw [decide_eq_true (show md_off g (q : Int) ((σ (s + (28 + 2 * q)) 0) + (k16 : Int) + 1) < sf by omega)] | rw [decide_eq_false (show ¬ md_off g (q : Int) ((σ (s + (28 + 2 * q)) 0) + (k16 : Int) + 1) < sf by omega)])
            first | rfl | (exfalso; omega)
          · refine jk_iconst (q := 70) dX1_shoreLines_69 rfl ?_
            refine jk_goto (q := 74) dX1_shoreLines_70 rfl ?_
            refine jk_iadd (q := 75) dX1_shoreLines_74 rfl ?_
            refine jk_istore4 (q := 77) dX1_shoreLines_75 rfl rfl rfl ?_
            refine jk_iinc5 (q := 80) dX1_shoreLines_77 rfl rfl rfl ?_
            refine jk_goto (q := 16) dX1_shoreLines_80 rfl ?_
            refine jk_convw (ih16 (by omega)) (jk_wkS rfl (jk_wkS rfl (jk_wkS rfl (jk_wkS rfl (jk_wkS (jk_li ?_) (jk_wkS (jk_li (by omega)) (jk_wkN (jk_wkN jk_wk0))))))))
            show cb_shF g (q : Int) sf (σ (s + (28 + 2 * q)) 0) k16 + jB (cb_wt g (q : Int) sf ((σ (s + (28 + 2 * q)) 0) + (k16 : Int)) != cb_wt g (q : Int) sf ((σ (s + (28 + 2 * q)) 0) + (k16 : Int) + 1)) = _
            unfold cb_wt
            (first | rw [decide_eq_true (show md_off g (q : Int) ((σ (s + (28 + 2 * q)) 0) + (k16 : Int)) < sf by omega)] | rw [decide_eq_false (show ¬ md_off g (q : Int) ((σ (s + (28 + 2 * q)) 0) + (k16 : Int)) < sf by omega)])
            (first | rw [decide_eq_true (show md_off g (q : Int) ((σ (s + (28 + 2 * q)) 0) + (k16 : Int) + 1) < sf by omega)] | rw [decide_eq_false (show ¬ md_off g (q : Int) ((σ (s + (28 + 2 * q)) 0) + (k16 : Int) + 1) < sf by omega)])
            first | rfl | (exfalso; omega)
        · refine jk_iconst (q := 54) dX1_shoreLines_53 rfl ?_
          refine jk_goto (q := 58) dX1_shoreLines_54 rfl ?_
          refine jk_istore7 (q := 60) dX1_shoreLines_58 rfl rfl rfl ?_
          refine jk_iload (q := 62) dX1_shoreLines_60 rfl rfl ?_
          refine jk_iload (q := 64) dX1_shoreLines_62 rfl rfl ?_
          refine jk_iload (q := 66) dX1_shoreLines_64 rfl rfl ?_
          refine jk_icmp_eq (q := 73) (q2 := 69) dX1_shoreLines_66 rfl rfl (by first | assumption | decide | omega | exact jB_01 _ | exact jB_in _ | exact ⟨by omega, by omega⟩) (by first | assumption | decide | omega | exact jB_01 _ | exact jB_in _ | exact ⟨by omega, by omega⟩) (fun z5 => ?_) (fun z5 => ?_)
          · refine jk_iconst (q := 74) dX1_shoreLines_73 rfl ?_
            refine jk_iadd (q := 75) dX1_shoreLines_74 rfl ?_
            refine jk_istore4 (q := 77) dX1_shoreLines_75 rfl rfl rfl ?_
            refine jk_iinc5 (q := 80) dX1_shoreLines_77 rfl rfl rfl ?_
            refine jk_goto (q := 16) dX1_shoreLines_80 rfl ?_
            refine jk_convw (ih16 (by omega)) (jk_wkS rfl (jk_wkS rfl (jk_wkS rfl (jk_wkS rfl (jk_wkS (jk_li ?_) (jk_wkS (jk_li (by omega)) (jk_wkN (jk_wkN jk_wk0))))))))
            show cb_shF g (q : Int) sf (σ (s + (28 + 2 * q)) 0) k16 + jB (cb_wt g (q : Int) sf ((σ (s + (28 + 2 * q)) 0) + (k16 : Int)) != cb_wt g (q : Int) sf ((σ (s + (28 + 2 * q)) 0) + (k16 : Int) + 1)) = _
            unfold cb_wt
            (first | rw [decide_eq_true (show md_off g (q : Int) ((σ (s + (28 + 2 * q)) 0) + (k16 : Int)) < sf by omega)] | rw [decide_eq_false (show ¬ md_off g (q : Int) ((σ (s + (28 + 2 * q)) 0) + (k16 : Int)) < sf by omega)])
            (first | rw [decide_eq_true (show md_off g (q : Int) ((σ (s + (28 + 2 * q)) 0) + (k16 : Int) + 1) < sf by omega)] | rw [decide_eq_false (show ¬ md_off g (q : Int) ((σ (s + (28 + 2 * q)) 0) + (k16 : Int) + 1) < sf by omega)])
            first | rfl | (exfalso; omega)
          · refine jk_iconst (q := 70) dX1_shoreLines_69 rfl ?_
            refine jk_goto (q := 74) dX1_shoreLines_70 rfl ?_
            refine jk_iadd (q := 75) dX1_shoreLines_74 rfl ?_
            refine jk_istore4 (q := 77) dX1_shoreLines_75 rfl rfl rfl ?_
            refine jk_iinc5 (q := 80) dX1_shoreLines_77 rfl rfl rfl ?_
            refine jk_goto (q := 16) dX1_shoreLines_80 rfl ?_
            refine jk_convw (ih16 (by omega)) (jk_wkS rfl (jk_wkS rfl (jk_wkS rfl (jk_wkS rfl (jk_wkS (jk_li ?_) (jk_wkS (jk_li (by omega)) (jk_wkN (jk_wkN jk_wk0))))))))
            show cb_shF g (q : Int) sf (σ (s + (28 + 2 * q)) 0) k16 + jB (cb_wt g (q : Int) sf ((σ (s + (28 + 2 * q)) 0) + (k16 : Int)) != cb_wt g (q : Int) sf ((σ (s + (28 + 2 * q)) 0) + (k16 : Int) + 1)) = _
            unfold cb_wt
            (first | rw [decide_eq_true (show md_off g (q : Int) ((σ (s + (28 + 2 * q)) 0) + (k16 : Int)) < sf by omega)] | rw [decide_eq_false (show ¬ md_off g (q : Int) ((σ (s + (28 + 2 * q)) 0) + (k16 : Int)) < sf by omega)])
            (first | rw [decide_eq_true (show md_off g (q : Int) ((σ (s + (28 + 2 * q)) 0) + (k16 : Int) + 1) < sf by omega)] | rw [decide_eq_false (show ¬ md_off g (q : Int) ((σ (s + (28 + 2 * q)) 0) + (k16 : Int) + 1) < sf by omega)])
            first | rfl | (exfalso; omega)
      · refine jk_iconst (q := 34) dX1_shoreLines_33 rfl ?_
        refine jk_goto (q := 38) dX1_shoreLines_34 rfl ?_
        refine jk_istore6 (q := 40) dX1_shoreLines_38 rfl rfl rfl ?_
        refine jk_aload_n (q := 41) dX1_shoreLines_40 rfl rfl ?_
        refine jk_iload_n (q := 42) dX1_shoreLines_41 rfl rfl ?_
        refine jk_iload (q := 44) dX1_shoreLines_42 rfl rfl ?_
        refine jk_iconst (q := 45) dX1_shoreLines_44 rfl ?_
        refine jk_iadd (q := 46) dX1_shoreLines_45 rfl ?_
        refine jk_cV2p (q := 49) (c_X1_offsetAt hba hr hi hx hnn hq hcd.1 hcd.2) jm_X1_offsetAt jw_1115 rfl (by first | exact hba.1.1 | exact hs.1 | exact hs.2.1 _ _ rfl | exact (cl_rows hs hq4).1 | exact (cl_rows hs hq4).2 | assumption) rfl rfl rfl dX1_shoreLines_46 rfl ?_
        have hob8 := cb_offbd hi hx ⟨by omega, hq⟩ ⟨hcd.1, hst.2⟩ hcd.2
        refine jk_iload_n (q := 50) dX1_shoreLines_49 rfl rfl ?_
        refine jk_icmp_ge (q := 57) (q2 := 53) dX1_shoreLines_50 rfl rfl (by first | assumption | decide | omega | exact jB_01 _ | exact jB_in _ | exact ⟨by omega, by omega⟩) (by first | assumption | decide | omega | exact jB_01 _ | exact jB_in _ | exact ⟨by omega, by omega⟩) (fun z6 => ?_) (fun z6 => ?_)
        · refine jk_iconst (q := 58) dX1_shoreLines_57 rfl ?_
          refine jk_istore7 (q := 60) dX1_shoreLines_58 rfl rfl rfl ?_
          refine jk_iload (q := 62) dX1_shoreLines_60 rfl rfl ?_
          refine jk_iload (q := 64) dX1_shoreLines_62 rfl rfl ?_
          refine jk_iload (q := 66) dX1_shoreLines_64 rfl rfl ?_
          refine jk_icmp_eq (q := 73) (q2 := 69) dX1_shoreLines_66 rfl rfl (by first | assumption | decide | omega | exact jB_01 _ | exact jB_in _ | exact ⟨by omega, by omega⟩) (by first | assumption | decide | omega | exact jB_01 _ | exact jB_in _ | exact ⟨by omega, by omega⟩) (fun z7 => ?_) (fun z7 => ?_)
          · refine jk_iconst (q := 74) dX1_shoreLines_73 rfl ?_
            refine jk_iadd (q := 75) dX1_shoreLines_74 rfl ?_
            refine jk_istore4 (q := 77) dX1_shoreLines_75 rfl rfl rfl ?_
            refine jk_iinc5 (q := 80) dX1_shoreLines_77 rfl rfl rfl ?_
            refine jk_goto (q := 16) dX1_shoreLines_80 rfl ?_
            refine jk_convw (ih16 (by omega)) (jk_wkS rfl (jk_wkS rfl (jk_wkS rfl (jk_wkS rfl (jk_wkS (jk_li ?_) (jk_wkS (jk_li (by omega)) (jk_wkN (jk_wkN jk_wk0))))))))
            show cb_shF g (q : Int) sf (σ (s + (28 + 2 * q)) 0) k16 + jB (cb_wt g (q : Int) sf ((σ (s + (28 + 2 * q)) 0) + (k16 : Int)) != cb_wt g (q : Int) sf ((σ (s + (28 + 2 * q)) 0) + (k16 : Int) + 1)) = _
            unfold cb_wt
            (first | rw [decide_eq_true (show md_off g (q : Int) ((σ (s + (28 + 2 * q)) 0) + (k16 : Int)) < sf by omega)] | rw [decide_eq_false (show ¬ md_off g (q : Int) ((σ (s + (28 + 2 * q)) 0) + (k16 : Int)) < sf by omega)])
            (first | rw [decide_eq_true (show md_off g (q : Int) ((σ (s + (28 + 2 * q)) 0) + (k16 : Int) + 1) < sf by omega)] | rw [decide_eq_false (show ¬ md_off g (q : Int) ((σ (s + (28 + 2 * q)) 0) + (k16 : Int) + 1) < sf by omega)])
            first | rfl | (exfalso; omega)
          · refine jk_iconst (q := 70) dX1_shoreLines_69 rfl ?_
            refine jk_goto (q := 74) dX1_shoreLines_70 rfl ?_
            refine jk_iadd (q := 75) dX1_shoreLines_74 rfl ?_
            refine jk_istore4 (q := 77) dX1_shoreLines_75 rfl rfl rfl ?_
            refine jk_iinc5 (q := 80) dX1_shoreLines_77 rfl rfl rfl ?_
            refine jk_goto (q := 16) dX1_shoreLines_80 rfl ?_
            refine jk_convw (ih16 (by omega)) (jk_wkS rfl (jk_wkS rfl (jk_wkS rfl (jk_wkS rfl (jk_wkS (jk_li ?_) (jk_wkS (jk_li (by omega)) (jk_wkN (jk_wkN jk_wk0))))))))
            show cb_shF g (q : Int) sf (σ (s + (28 + 2 * q)) 0) k16 + jB (cb_wt g (q : Int) sf ((σ (s + (28 + 2 * q)) 0) + (k16 : Int)) != cb_wt g (q : Int) sf ((σ (s + (28 + 2 * q)) 0) + (k16 : Int) + 1)) = _
            unfold cb_wt
            (first | rw [decide_eq_true (show md_off g (q : Int) ((σ (s + (28 + 2 * q)) 0) + (k16 : Int)) < sf by omega)] | rw [decide_eq_false (show ¬ md_off g (q : Int) ((σ (s + (28 + 2 * q)) 0) + (k16 : Int)) < sf by omega)])
            (first | rw [decide_eq_true (show md_off g (q : Int) ((σ (s + (28 + 2 * q)) 0) + (k16 : Int) + 1) < sf by omega)] | rw [decide_eq_false (show ¬ md_off g (q : Int) ((σ (s + (28 + 2 * q)) 0) + (k16 : Int) + 1) < sf by omega)])
            first | rfl | (exfalso; omega)
        · refine jk_iconst (q := 54) dX1_shoreLines_53 rfl ?_
          refine jk_goto (q := 58) dX1_shoreLines_54 rfl ?_
          refine jk_istore7 (q := 60) dX1_shoreLines_58 rfl rfl rfl ?_
          refine jk_iload (q := 62) dX1_shoreLines_60 rfl rfl ?_
          refine jk_iload (q := 64) dX1_shoreLines_62 rfl rfl ?_
          refine jk_iload (q := 66) dX1_shoreLines_64 rfl rfl ?_
          refine jk_icmp_eq (q := 73) (q2 := 69) dX1_shoreLines_66 rfl rfl (by first | assumption | decide | omega | exact jB_01 _ | exact jB_in _ | exact ⟨by omega, by omega⟩) (by first | assumption | decide | omega | exact jB_01 _ | exact jB_in _ | exact ⟨by omega, by omega⟩) (fun z8 => ?_) (fun z8 => ?_)
          · refine jk_iconst (q := 74) dX1_shoreLines_73 rfl ?_
            refine jk_iadd (q := 75) dX1_shoreLines_74 rfl ?_
            refine jk_istore4 (q := 77) dX1_shoreLines_75 rfl rfl rfl ?_
            refine jk_iinc5 (q := 80) dX1_shoreLines_77 rfl rfl rfl ?_
            refine jk_goto (q := 16) dX1_shoreLines_80 rfl ?_
            refine jk_convw (ih16 (by omega)) (jk_wkS rfl (jk_wkS rfl (jk_wkS rfl (jk_wkS rfl (jk_wkS (jk_li ?_) (jk_wkS (jk_li (by omega)) (jk_wkN (jk_wkN jk_wk0))))))))
            show cb_shF g (q : Int) sf (σ (s + (28 + 2 * q)) 0) k16 + jB (cb_wt g (q : Int) sf ((σ (s + (28 + 2 * q)) 0) + (k16 : Int)) != cb_wt g (q : Int) sf ((σ (s + (28 + 2 * q)) 0) + (k16 : Int) + 1)) = _
            unfold cb_wt
            (first | rw [decide_eq_true (show md_off g (q : Int) ((σ (s + (28 + 2 * q)) 0) + (k16 : Int)) < sf by omega)] | rw [decide_eq_false (show ¬ md_off g (q : Int) ((σ (s + (28 + 2 * q)) 0) + (k16 : Int)) < sf by omega)])
            (first | rw [decide_eq_true (show md_off g (q : Int) ((σ (s + (28 + 2 * q)) 0) + (k16 : Int) + 1) < sf by omega)] | rw [decide_eq_false (show ¬ md_off g (q : Int) ((σ (s + (28 + 2 * q)) 0) + (k16 : Int) + 1) < sf by omega)])
            first | rfl | (exfalso; omega)
          · refine jk_iconst (q := 70) dX1_shoreLines_69 rfl ?_
            refine jk_goto (q := 74) dX1_shoreLines_70 rfl ?_
            refine jk_iadd (q := 75) dX1_shoreLines_74 rfl ?_
            refine jk_istore4 (q := 77) dX1_shoreLines_75 rfl rfl rfl ?_
            refine jk_iinc5 (q := 80) dX1_shoreLines_77 rfl rfl rfl ?_
            refine jk_goto (q := 16) dX1_shoreLines_80 rfl ?_
            refine jk_convw (ih16 (by omega)) (jk_wkS rfl (jk_wkS rfl (jk_wkS rfl (jk_wkS rfl (jk_wkS (jk_li ?_) (jk_wkS (jk_li (by omega)) (jk_wkN (jk_wkN jk_wk0))))))))
            show cb_shF g (q : Int) sf (σ (s + (28 + 2 * q)) 0) k16 + jB (cb_wt g (q : Int) sf ((σ (s + (28 + 2 * q)) 0) + (k16 : Int)) != cb_wt g (q : Int) sf ((σ (s + (28 + 2 * q)) 0) + (k16 : Int) + 1)) = _
            unfold cb_wt
            (first | rw [decide_eq_true (show md_off g (q : Int) ((σ (s + (28 + 2 * q)) 0) + (k16 : Int)) < sf by omega)] | rw [decide_eq_false (show ¬ md_off g (q : Int) ((σ (s + (28 + 2 * q)) 0) + (k16 : Int)) < sf by omega)])
            (first | rw [decide_eq_true (show md_off g (q : Int) ((σ (s + (28 + 2 * q)) 0) + (k16 : Int) + 1) < sf by omega)] | rw [decide_eq_false (show ¬ md_off g (q : Int) ((σ (s + (28 + 2 * q)) 0) + (k16 : Int) + 1) < sf by omega)])
            first | rfl | (exfalso; omega)
  exact jk_convw (L16 0 (Nat.zero_le _)) (jk_wkS rfl (jk_wkS rfl (jk_wkS rfl (jk_wkS rfl (jk_wkS rfl (jk_wkS (jk_li (by omega)) (jk_wkN (jk_wkN jk_wk0))))))))
theorem cb_low_bd (g : Int → Int) (q b : Int) : ∀ k : Nat, b ≤ md_low g q b k ∧ md_low g q b k ≤ b + (k : Int)
  | 0 => ⟨Int.le_refl _, by show b ≤ b + 0; omega⟩
  | k + 1 => by
    have := cb_low_bd g q b k
    unfold md_low
    split <;> exact ⟨by omega, by omega⟩
theorem c_X1_columnOfLowestOffset {G : jk_G} {n : Nat} {t : jk_T} {σ : jk_I} {ρ : jk_P} {b s q : Nat} {g : Int → Int} {B : Int} (hba : ba_at t ρ b s) (hr : cl_rel σ s g) (hi : md_inv B g) (hx : md_inx g) (hnn : cl_nn σ s) (hq : (q : Int) < g 2) (hst1 : 0 < g (156 + (q : Int))) : jk_K G yX1_columnOfLowestOffset mX1_columnOfLowestOffset 0 0 [.ref b, jI (q : Int)] n t σ ρ (jk_q (some (jI (md_low g (q : Int) (md_Ds g (q : Int) 0) ((md_Ds g (q : Int) (g (156 + (q : Int)) - 1)) - (md_Ds g (q : Int) 0)).toNat))) n t σ ρ) jk_no := by
  obtain ⟨-, hs, hsb⟩ := id hba
  have i2 := hi.2.2.1
  have hq4 : q < 4 := by omega
  obtain ⟨r1, r2, r3⟩ := hr.2.2.2 q hq
  obtain ⟨x1, x2⟩ := hx (q : Int) ⟨by omega, hq⟩
  have hst := (hi.2.2.2.2.2.2.2.1 (q : Int) ⟨by omega, by omega⟩).1
  have hnq := hnn q hq4
  have hd0 : σ (s + (28 + 2 * q)) 0 = md_Ds g (q : Int) 0 := by unfold md_Ds; exact (r3 0 ⟨by omega, hst1⟩).1
  have ha0 := x1 0 ⟨by omega, hst1⟩
  have ha1 := x1 (g (156 + (q : Int)) - 1) ⟨by omega, by omega⟩
  refine jk_entryB (ls := [some (.ref b), some (jI (q : Int)), none, none, none]) jm_X1_columnOfLowestOffset.1 rfl rfl rfl ?_
  refine jk_aload_n (q := 1) dX1_columnOfLowestOffset_0 rfl rfl ?_
  refine jk_iload_n (q := 2) dX1_columnOfLowestOffset_1 rfl rfl ?_
  refine jk_cV1p (q := 5) (c_X1_lastColumn hba hr hi hx hnn hq) jm_X1_lastColumn jw_1090 rfl (by first | exact hba.1.1 | exact hs.1 | exact hs.2.1 _ _ rfl | exact (cl_rows hs hq4).1 | exact (cl_rows hs hq4).2 | assumption) rfl rfl rfl dX1_columnOfLowestOffset_2 rfl ?_
  rw [if_pos hst1]
  refine jk_istore2 (q := 6) dX1_columnOfLowestOffset_5 rfl rfl rfl ?_
  refine jk_aload_n (q := 7) dX1_columnOfLowestOffset_6 rfl rfl ?_
  refine jk_iload_n (q := 8) dX1_columnOfLowestOffset_7 rfl rfl ?_
  refine jk_cV1p (q := 11) (c_X1_firstColumn hba hr hi hx hnn hq) jm_X1_firstColumn jw_1086 rfl (by first | exact hba.1.1 | exact hs.1 | exact hs.2.1 _ _ rfl | exact (cl_rows hs hq4).1 | exact (cl_rows hs hq4).2 | assumption) rfl rfl rfl dX1_columnOfLowestOffset_8 rfl ?_
  rw [hd0]
  refine jk_istore3 (q := 12) dX1_columnOfLowestOffset_11 rfl rfl rfl ?_
  refine jk_iload_n (q := 13) dX1_columnOfLowestOffset_12 rfl rfl ?_
  refine jk_iconst (q := 14) dX1_columnOfLowestOffset_13 rfl ?_
  refine jk_iadd (q := 15) dX1_columnOfLowestOffset_14 rfl ?_
  refine jk_istore4 (q := 17) dX1_columnOfLowestOffset_15 rfl rfl rfl ?_
  have L17 : ∀ k17 : Nat, k17 ≤ ((md_Ds g (q : Int) (g (156 + (q : Int)) - 1)) - (md_Ds g (q : Int) 0)).toNat → jk_J G mX1_columnOfLowestOffset 17 [some (.ref b), some (jI (q : Int)), some (jI (md_Ds g (q : Int) (g (156 + (q : Int)) - 1))), some (jI (md_low g (q : Int) (md_Ds g (q : Int) 0) k17)), some (jI ((md_Ds g (q : Int) 0) + 1 + (k17 : Int)))] [] n t σ ρ 0 0 (jk_q (some (jI (md_low g (q : Int) (md_Ds g (q : Int) 0) ((md_Ds g (q : Int) (g (156 + (q : Int)) - 1)) - (md_Ds g (q : Int) 0)).toNat))) n t σ ρ) jk_no := by
    refine jk_loop _ (fun k17 hk17 ih17 => ?_)
    refine jk_iload (q := 19) dX1_columnOfLowestOffset_17 rfl rfl ?_
    refine jk_iload_n (q := 20) dX1_columnOfLowestOffset_19 rfl rfl ?_
    refine jk_icmp_gt (q := 48) (q2 := 23) dX1_columnOfLowestOffset_20 rfl rfl (by first | assumption | decide | omega | exact jB_01 _ | exact jB_in _ | exact ⟨by omega, by omega⟩) (by first | assumption | decide | omega | exact jB_01 _ | exact jB_in _ | exact ⟨by omega, by omega⟩) (fun z1 => ?_) (fun z1 => ?_)
    · refine jk_iload_n (q := 49) dX1_columnOfLowestOffset_48 rfl rfl ?_
      exact jk_iret rfl dX1_columnOfLowestOffset_49 (by refine jk_qI ?_; rw [show k17 = ((md_Ds g (q : Int) (g (156 + (q : Int)) - 1)) - (md_Ds g (q : Int) 0)).toNat by omega])
    · have hlb := cb_low_bd g (q : Int) (md_Ds g (q : Int) 0) k17
      refine jk_aload_n (q := 24) dX1_columnOfLowestOffset_23 rfl rfl ?_
      refine jk_iload_n (q := 25) dX1_columnOfLowestOffset_24 rfl rfl ?_
      refine jk_iload (q := 27) dX1_columnOfLowestOffset_25 rfl rfl ?_
      refine jk_cV2p (q := 30) (c_X1_offsetAt hba hr hi hx hnn hq (by omega) ⟨by omega, by omega⟩) jm_X1_offsetAt jw_1115 rfl (by first | exact hba.1.1 | exact hs.1 | exact hs.2.1 _ _ rfl | exact (cl_rows hs hq4).1 | exact (cl_rows hs hq4).2 | assumption) rfl rfl rfl dX1_columnOfLowestOffset_27 rfl ?_
      have hob9 := cb_offbd (c := md_Ds g (q : Int) 0 + 1 + (k17 : Int)) hi hx ⟨by omega, hq⟩ ⟨by omega, hst.2⟩ ⟨by omega, by omega⟩
      refine jk_aload_n (q := 31) dX1_columnOfLowestOffset_30 rfl rfl ?_
      refine jk_iload_n (q := 32) dX1_columnOfLowestOffset_31 rfl rfl ?_
      refine jk_iload_n (q := 33) dX1_columnOfLowestOffset_32 rfl rfl ?_
      refine jk_cV2p (q := 36) (c_X1_offsetAt hba hr hi hx hnn hq (by omega) ⟨by omega, by omega⟩) jm_X1_offsetAt jw_1115 rfl (by first | exact hba.1.1 | exact hs.1 | exact hs.2.1 _ _ rfl | exact (cl_rows hs hq4).1 | exact (cl_rows hs hq4).2 | assumption) rfl rfl rfl dX1_columnOfLowestOffset_33 rfl ?_
      have hob8 := cb_offbd (c := (md_low g (q : Int) (md_Ds g (q : Int) 0) k17)) hi hx ⟨by omega, hq⟩ ⟨by omega, hst.2⟩ ⟨by omega, by omega⟩
      refine jk_icmp_ge (q := 42) (q2 := 39) dX1_columnOfLowestOffset_36 rfl rfl (by first | assumption | decide | omega | exact jB_01 _ | exact jB_in _ | exact ⟨by omega, by omega⟩) (by first | assumption | decide | omega | exact jB_01 _ | exact jB_in _ | exact ⟨by omega, by omega⟩) (fun z2 => ?_) (fun z2 => ?_)
      · refine jk_iinc4 (q := 45) dX1_columnOfLowestOffset_42 rfl rfl rfl ?_
        refine jk_goto (q := 17) dX1_columnOfLowestOffset_45 rfl ?_
        refine jk_convw (ih17 (by omega)) (jk_wkS rfl (jk_wkS rfl (jk_wkS rfl (jk_wkS (jk_li ?_) (jk_wkS (jk_li (by omega)) jk_wk0)))))
        show (if md_off g (q : Int) ((md_Ds g (q : Int) 0) + 1 + (k17 : Int)) < md_off g (q : Int) (md_low g (q : Int) (md_Ds g (q : Int) 0) k17) then (md_Ds g (q : Int) 0) + 1 + (k17 : Int) else (md_low g (q : Int) (md_Ds g (q : Int) 0) k17)) = _
        first | rw [if_pos (show md_off g (q : Int) ((md_Ds g (q : Int) 0) + 1 + (k17 : Int)) < md_off g (q : Int) (md_low g (q : Int) (md_Ds g (q : Int) 0) k17) by omega)] | rw [if_neg (show ¬ md_off g (q : Int) ((md_Ds g (q : Int) 0) + 1 + (k17 : Int)) < md_off g (q : Int) (md_low g (q : Int) (md_Ds g (q : Int) 0) k17) by omega)]
      · refine jk_iload (q := 41) dX1_columnOfLowestOffset_39 rfl rfl ?_
        refine jk_istore3 (q := 42) dX1_columnOfLowestOffset_41 rfl rfl rfl ?_
        refine jk_iinc4 (q := 45) dX1_columnOfLowestOffset_42 rfl rfl rfl ?_
        refine jk_goto (q := 17) dX1_columnOfLowestOffset_45 rfl ?_
        refine jk_convw (ih17 (by omega)) (jk_wkS rfl (jk_wkS rfl (jk_wkS rfl (jk_wkS (jk_li ?_) (jk_wkS (jk_li (by omega)) jk_wk0)))))
        show (if md_off g (q : Int) ((md_Ds g (q : Int) 0) + 1 + (k17 : Int)) < md_off g (q : Int) (md_low g (q : Int) (md_Ds g (q : Int) 0) k17) then (md_Ds g (q : Int) 0) + 1 + (k17 : Int) else (md_low g (q : Int) (md_Ds g (q : Int) 0) k17)) = _
        first | rw [if_pos (show md_off g (q : Int) ((md_Ds g (q : Int) 0) + 1 + (k17 : Int)) < md_off g (q : Int) (md_low g (q : Int) (md_Ds g (q : Int) 0) k17) by omega)] | rw [if_neg (show ¬ md_off g (q : Int) ((md_Ds g (q : Int) 0) + 1 + (k17 : Int)) < md_off g (q : Int) (md_low g (q : Int) (md_Ds g (q : Int) 0) k17) by omega)]
  exact jk_convw (L17 0 (Nat.zero_le _)) (jk_wkS rfl (jk_wkS rfl (jk_wkS rfl (jk_wkS rfl (jk_wkS (jk_li (by omega)) jk_wk0)))))
theorem c_X1_wetOfSegment {G : jk_G} {n : Nat} {t : jk_T} {σ : jk_I} {ρ : jk_P} {span rise depth : Int} (hs : 0 < span ∧ span ≤ 99) (hri : -1998 ≤ rise ∧ rise ≤ 1998) (hd : -4000000 ≤ depth ∧ depth ≤ 4000000) : jk_K G yX1_wetOfSegment mX1_wetOfSegment 0 0 [jI span, jI rise, jI depth] n t σ ρ (jk_q (some (jI (cb_seg span rise depth))) n t σ ρ) jk_no := by
  have hp : -400000000 ≤ depth * span ∧ depth * span ≤ 400000000 := by
    have b1 := Int.mul_le_mul_of_nonneg_right hd.2 (show 0 ≤ span by omega)
    have b2 := Int.mul_le_mul_of_nonneg_right hd.1 (show 0 ≤ span by omega)
    omega
  have hp2 : -depth * span = -(depth * span) := Int.neg_mul _ _
  refine jk_entryB (ls := [some (jI span), some (jI rise), some (jI depth)]) jm_X1_wetOfSegment.1 rfl rfl rfl ?_
  refine jk_iload_n (q := 1) dX1_wetOfSegment_0 rfl rfl ?_
  refine jk_if_ne (q := 14) (q2 := 4) dX1_wetOfSegment_1 rfl rfl (by first | assumption | decide | omega | exact jB_01 _ | exact jB_in _ | exact ⟨by omega, by omega⟩) (fun z1 => ?_) (fun z1 => ?_)
  · refine jk_iload_n (q := 15) dX1_wetOfSegment_14 rfl rfl ?_
    refine jk_if_le (q := 34) (q2 := 18) dX1_wetOfSegment_15 rfl rfl (by first | assumption | decide | omega | exact jB_01 _ | exact jB_in _ | exact ⟨by omega, by omega⟩) (fun z2 => ?_) (fun z2 => ?_)
    · refine jk_iload_n (q := 35) dX1_wetOfSegment_34 rfl rfl ?_
      refine jk_iload_n (q := 36) dX1_wetOfSegment_35 rfl rfl ?_
      refine jk_ineg (q := 37) dX1_wetOfSegment_36 rfl ?_
      refine jk_iload_n (q := 38) dX1_wetOfSegment_37 rfl rfl ?_
      refine jk_imul (q := 39) dX1_wetOfSegment_38 rfl ?_
      refine jk_iload_n (q := 40) dX1_wetOfSegment_39 rfl rfl ?_
      refine jk_ineg (q := 41) dX1_wetOfSegment_40 rfl ?_
      refine jk_cS2pF (q := 44) (c_J9_floorDiv_7cf53 (x := -depth * span) (y := -rise) ⟨by omega, by omega⟩ ⟨by omega, by omega⟩) jm_J9_floorDiv_7cf53 jw_1100 rfl rfl rfl dX1_wetOfSegment_41 rfl ?_
      have hqb := md_quo_bd (v := -depth * span) (b := -rise) (C := 400000001) (by omega) ⟨by omega, by omega⟩
      refine jk_iconst (q := 45) dX1_wetOfSegment_44 rfl ?_
      refine jk_iadd (q := 46) dX1_wetOfSegment_45 rfl ?_
      refine jk_iload_n (q := 47) dX1_wetOfSegment_46 rfl rfl ?_
      refine jk_cS2p (q := 50) (c_X1_clamp (v := -depth * span / -rise + 1) (hi := span) ⟨by omega, by omega⟩ ⟨by omega, by omega⟩) jm_X1_clamp jw_1127 rfl rfl rfl dX1_wetOfSegment_47 rfl ?_
      refine jk_isub (q := 51) dX1_wetOfSegment_50 rfl ?_
      exact jk_iret rfl dX1_wetOfSegment_51 (by refine jk_qI ?_; rw [cb_seg_n hs.1 (by omega)])
    · refine jk_iload_n (q := 19) dX1_wetOfSegment_18 rfl rfl ?_
      refine jk_iload_n (q := 20) dX1_wetOfSegment_19 rfl rfl ?_
      refine jk_imul (q := 21) dX1_wetOfSegment_20 rfl ?_
      refine jk_iconst (q := 22) dX1_wetOfSegment_21 rfl ?_
      refine jk_isub (q := 23) dX1_wetOfSegment_22 rfl ?_
      refine jk_iload_n (q := 24) dX1_wetOfSegment_23 rfl rfl ?_
      refine jk_cS2pF (q := 27) (c_J9_floorDiv_7cf53 (x := depth * span - 1) (y := rise) ⟨by omega, by omega⟩ ⟨by omega, by omega⟩) jm_J9_floorDiv_7cf53 jw_1100 rfl rfl rfl dX1_wetOfSegment_24 rfl ?_
      have hqb := md_quo_bd (v := depth * span - 1) (b := rise) (C := 400000001) (by omega) ⟨by omega, by omega⟩
      refine jk_iconst (q := 28) dX1_wetOfSegment_27 rfl ?_
      refine jk_iadd (q := 29) dX1_wetOfSegment_28 rfl ?_
      refine jk_iload_n (q := 30) dX1_wetOfSegment_29 rfl rfl ?_
      refine jk_cS2p (q := 33) (c_X1_clamp (v := (depth * span - 1) / rise + 1) (hi := span) ⟨by omega, by omega⟩ ⟨by omega, by omega⟩) jm_X1_clamp jw_1127 rfl rfl rfl dX1_wetOfSegment_30 rfl ?_
      exact jk_iret rfl dX1_wetOfSegment_33 (by refine jk_qI ?_; rw [cb_seg_p hs.1 (by omega)])
  · refine jk_iload_n (q := 5) dX1_wetOfSegment_4 rfl rfl ?_
    refine jk_if_le (q := 12) (q2 := 8) dX1_wetOfSegment_5 rfl rfl (by first | assumption | decide | omega | exact jB_01 _ | exact jB_in _ | exact ⟨by omega, by omega⟩) (fun z3 => ?_) (fun z3 => ?_)
    · refine jk_iconst (q := 13) dX1_wetOfSegment_12 rfl ?_
      exact jk_iret rfl dX1_wetOfSegment_13 (by refine jk_qI ?_; rw [show rise = 0 by assumption, cb_seg_0 hs.1]; first | rw [if_pos (by omega)] | rw [if_neg (by omega)])
    · refine jk_iload_n (q := 9) dX1_wetOfSegment_8 rfl rfl ?_
      refine jk_goto (q := 13) dX1_wetOfSegment_9 rfl ?_
      exact jk_iret rfl dX1_wetOfSegment_13 (by refine jk_qI ?_; rw [show rise = 0 by assumption, cb_seg_0 hs.1]; first | rw [if_pos (by omega)] | rw [if_neg (by omega)])
theorem c_X1_wetBySegments {G : jk_G} {n : Nat} {t : jk_T} {σ : jk_I} {ρ : jk_P} {b s q : Nat} {g : Int → Int} {B sf : Int} (hba : ba_at t ρ b s) (hr : cl_rel σ s g) (hi : md_inv B g) (hx : md_inx g) (hnn : cl_nn σ s) (hq : (q : Int) < g 2) (hsf : -3000000 ≤ sf ∧ sf ≤ 3000000) : jk_K G yX1_wetBySegments mX1_wetBySegments 0 0 [.ref b, jI (q : Int), jI sf] n t σ ρ (jk_q (some (jI (cb_wc g (q : Int) sf))) n t σ ρ) jk_no := by
  obtain ⟨-, hs, hsb⟩ := id hba
  have i2 := hi.2.2.1
  have hq4 : q < 4 := by omega
  obtain ⟨r1, r2, r3⟩ := hr.2.2.2 q hq
  obtain ⟨x1, x2⟩ := hx (q : Int) ⟨by omega, hq⟩
  have hst := (hi.2.2.2.2.2.2.2.1 (q : Int) ⟨by omega, by omega⟩).1
  have hnq := hnn q hq4
  have hob : ∀ k, 0 ≤ k ∧ k < 10 → -999 ≤ g (200 + 10 * (q : Int) + k) ∧ g (200 + 10 * (q : Int) + k) ≤ 999 := fun k hk => hi.2.2.2.2.2.2.2.2 _ ⟨by omega, by omega⟩
  refine jk_entryB (ls := [some (.ref b), some (jI (q : Int)), some (jI sf), none, none, none, none, none, none]) jm_X1_wetBySegments.1 rfl rfl rfl ?_
  refine jk_aload_n (q := 1) dX1_wetBySegments_0 rfl rfl ?_
  refine jk_getA (q := 4) (k := 1) 0 0 rfl (by first | exact hba.1.1 | exact hs.1 | exact hs.2.1 _ _ rfl | exact (cl_rows hs hq4).1 | exact (cl_rows hs hq4).2 | assumption) (by first | exact hba.1.2 | exact hs.2.2.1 _ _ rfl | exact (hs.2.2.2 q hq4).1 | exact (hs.2.2.2 q hq4).2 | assumption) rfl rfl jw_285 dX1_wetBySegments_1 rfl ?_
  refine jk_getA (q := 7) (k := 9) 15 15 rfl (by first | exact hba.1.1 | exact hs.1 | exact hs.2.1 _ _ rfl | exact (cl_rows hs hq4).1 | exact (cl_rows hs hq4).2 | assumption) (by first | exact hba.1.2 | exact hs.2.2.1 _ _ rfl | exact (hs.2.2.2 q hq4).1 | exact (hs.2.2.2 q hq4).2 | assumption) rfl rfl jw_116 dX1_wetBySegments_4 rfl ?_
  refine jk_iload_n (q := 8) dX1_wetBySegments_7 rfl rfl ?_
  refine jk_aald (q := 9) (ty := .array .int) rfl rfl (by first | exact hba.1.1 | exact hs.1 | exact hs.2.1 _ _ rfl | exact (cl_rows hs hq4).1 | exact (cl_rows hs hq4).2 | assumption) (by first | assumption | decide | omega | exact jB_01 _ | exact jB_in _ | exact ⟨by omega, by omega⟩) (by first | exact hba.1.2 | exact hs.2.2.1 _ _ rfl | exact (hs.2.2.2 q hq4).1 | exact (hs.2.2.2 q hq4).2 | assumption) dX1_wetBySegments_8 rfl ?_
  refine jk_astore3 (q := 10) dX1_wetBySegments_9 rfl rfl rfl ?_
  refine jk_aload_n (q := 11) dX1_wetBySegments_10 rfl rfl ?_
  refine jk_getA (q := 14) (k := 1) 0 0 rfl (by first | exact hba.1.1 | exact hs.1 | exact hs.2.1 _ _ rfl | exact (cl_rows hs hq4).1 | exact (cl_rows hs hq4).2 | assumption) (by first | exact hba.1.2 | exact hs.2.2.1 _ _ rfl | exact (hs.2.2.2 q hq4).1 | exact (hs.2.2.2 q hq4).2 | assumption) rfl rfl jw_285 dX1_wetBySegments_11 rfl ?_
  refine jk_getA (q := 17) (k := 9) 16 16 rfl (by first | exact hba.1.1 | exact hs.1 | exact hs.2.1 _ _ rfl | exact (cl_rows hs hq4).1 | exact (cl_rows hs hq4).2 | assumption) (by first | exact hba.1.2 | exact hs.2.2.1 _ _ rfl | exact (hs.2.2.2 q hq4).1 | exact (hs.2.2.2 q hq4).2 | assumption) rfl rfl jw_119 dX1_wetBySegments_14 rfl ?_
  refine jk_iload_n (q := 18) dX1_wetBySegments_17 rfl rfl ?_
  refine jk_aald (q := 19) (ty := .array .int) rfl rfl (by first | exact hba.1.1 | exact hs.1 | exact hs.2.1 _ _ rfl | exact (cl_rows hs hq4).1 | exact (cl_rows hs hq4).2 | assumption) (by first | assumption | decide | omega | exact jB_01 _ | exact jB_in _ | exact ⟨by omega, by omega⟩) (by first | exact hba.1.2 | exact hs.2.2.1 _ _ rfl | exact (hs.2.2.2 q hq4).1 | exact (hs.2.2.2 q hq4).2 | assumption) dX1_wetBySegments_18 rfl ?_
  refine jk_astore4 (q := 21) dX1_wetBySegments_19 rfl rfl rfl ?_
  refine jk_aload_n (q := 22) dX1_wetBySegments_21 rfl rfl ?_
  refine jk_getA (q := 25) (k := 1) 0 0 rfl (by first | exact hba.1.1 | exact hs.1 | exact hs.2.1 _ _ rfl | exact (cl_rows hs hq4).1 | exact (cl_rows hs hq4).2 | assumption) (by first | exact hba.1.2 | exact hs.2.2.1 _ _ rfl | exact (hs.2.2.2 q hq4).1 | exact (hs.2.2.2 q hq4).2 | assumption) rfl rfl jw_285 dX1_wetBySegments_22 rfl ?_
  refine jk_getA (q := 28) (k := 9) 14 14 rfl (by first | exact hba.1.1 | exact hs.1 | exact hs.2.1 _ _ rfl | exact (cl_rows hs hq4).1 | exact (cl_rows hs hq4).2 | assumption) (by first | exact hba.1.2 | exact hs.2.2.1 _ _ rfl | exact (hs.2.2.2 q hq4).1 | exact (hs.2.2.2 q hq4).2 | assumption) rfl rfl jw_112 dX1_wetBySegments_25 rfl ?_
  refine jk_iload_n (q := 29) dX1_wetBySegments_28 rfl rfl ?_
  refine jk_ialdR (q := 30) (by first | exact hba.1.1 | exact hs.1 | exact hs.2.1 _ _ rfl | exact (cl_rows hs hq4).1 | exact (cl_rows hs hq4).2 | assumption) (by first | exact jk_row_same _ _ _ | ((repeat rewrite [jk_row_ne _ _ (by omega)]); first | exact jk_row_same _ _ _ | rfl)) (by first | assumption | decide | omega | exact jB_01 _ | exact jB_in _ | exact ⟨by omega, by omega⟩) dX1_wetBySegments_29 rfl ?_
  rw [r2]
  refine jk_iconst (q := 31) dX1_wetBySegments_30 rfl ?_
  refine jk_isub (q := 32) dX1_wetBySegments_31 rfl ?_
  refine jk_istore5 (q := 34) dX1_wetBySegments_32 rfl rfl rfl ?_
  refine jk_iload (q := 36) dX1_wetBySegments_34 rfl rfl ?_
  refine jk_if_ge (q := 41) (q2 := 39) dX1_wetBySegments_36 rfl rfl (by first | assumption | decide | omega | exact jB_01 _ | exact jB_in _ | exact ⟨by omega, by omega⟩) (fun z1 => ?_) (fun z1 => ?_)
  · have hl9 := (r3 (g (156 + (q : Int)) - 1) ⟨by omega, by omega⟩).2
    have hlb9 := hob (g (156 + (q : Int)) - 1) ⟨by omega, by omega⟩
    refine jk_aload (q := 43) dX1_wetBySegments_41 rfl rfl ?_
    refine jk_iload (q := 45) dX1_wetBySegments_43 rfl rfl ?_
    refine jk_ialdR (q := 46) (by first | exact hba.1.1 | exact hs.1 | exact hs.2.1 _ _ rfl | exact (cl_rows hs hq4).1 | exact (cl_rows hs hq4).2 | assumption) (by first | exact jk_row_same _ _ _ | ((repeat rewrite [jk_row_ne _ _ (by omega)]); first | exact jk_row_same _ _ _ | rfl)) (by first | assumption | decide | omega | exact jB_01 _ | exact jB_in _ | exact ⟨by omega, by omega⟩) dX1_wetBySegments_45 rfl ?_
    rw [hl9]
    refine jk_iload_n (q := 47) dX1_wetBySegments_46 rfl rfl ?_
    refine jk_icmp_ge (q := 54) (q2 := 50) dX1_wetBySegments_47 rfl rfl (by first | assumption | decide | omega | exact jB_01 _ | exact jB_in _ | exact ⟨by omega, by omega⟩) (by first | assumption | decide | omega | exact jB_01 _ | exact jB_in _ | exact ⟨by omega, by omega⟩) (fun z2 => ?_) (fun z2 => ?_)
    · refine jk_iconst (q := 55) dX1_wetBySegments_54 rfl ?_
      refine jk_istore6 (q := 57) dX1_wetBySegments_55 rfl rfl rfl ?_
      refine jk_iconst (q := 58) dX1_wetBySegments_57 rfl ?_
      refine jk_istore7 (q := 60) dX1_wetBySegments_58 rfl rfl rfl ?_
      have L60 : ∀ k60 : Nat, k60 ≤ (g (156 + (q : Int)) - 1).toNat → jk_J G mX1_wetBySegments 60 [some (.ref b), some (jI (q : Int)), some (jI sf), some (.ref (s + (28 + 2 * q))), some (.ref (s + (38 + 2 * q))), some (jI (g (156 + (q : Int)) - 1)), some (jI ((jB (decide (g (200 + 10 * (q : Int) + (g (156 + (q : Int)) - 1)) < sf))) + (jk_sum (cb_sg g (q : Int) sf) k60))), some (jI (k60 : Int)), none] [] n t σ ρ 0 0 (jk_q (some (jI (cb_wc g (q : Int) sf))) n t σ ρ) jk_no := by
        refine jk_loop _ (fun k60 hk60 ih60 => ?_)
        refine jk_iload (q := 62) dX1_wetBySegments_60 rfl rfl ?_
        refine jk_iload (q := 64) dX1_wetBySegments_62 rfl rfl ?_
        refine jk_icmp_ge (q := 116) (q2 := 67) dX1_wetBySegments_64 rfl rfl (by first | assumption | decide | omega | exact jB_01 _ | exact jB_in _ | exact ⟨by omega, by omega⟩) (by first | assumption | decide | omega | exact jB_01 _ | exact jB_in _ | exact ⟨by omega, by omega⟩) (fun z3 => ?_) (fun z3 => ?_)
        · refine jk_iload (q := 118) dX1_wetBySegments_116 rfl rfl ?_
          exact jk_iret rfl dX1_wetBySegments_118 (by refine jk_qI ?_; rw [cb_segs x2 ⟨by omega, hst.2⟩, show (g (156 + (q : Int)) - 1).toNat = k60 by omega])
        · obtain ⟨a1, a2⟩ := r3 (k60 : Int) ⟨by omega, by omega⟩
          obtain ⟨a3, a4⟩ := r3 ((k60 : Int) + 1) ⟨by omega, by omega⟩
          have a5 := x2 (k60 : Int) ⟨by omega, by omega⟩
          have a6 := x1 (k60 : Int) ⟨by omega, by omega⟩
          have a7 := x1 ((k60 : Int) + 1) ⟨by omega, by omega⟩
          have a8 := hob (k60 : Int) ⟨by omega, by omega⟩
          have a9 := hob ((k60 : Int) + 1) ⟨by omega, by omega⟩
          have e1 : σ (s + (28 + 2 * q)) (k60 : Int) = md_Ds g (q : Int) (k60 : Int) := a1
          have e2 : σ (s + (28 + 2 * q)) ((k60 : Int) + 1) = md_Ds g (q : Int) ((k60 : Int) + 1) := a3
          refine jk_aload_n (q := 68) dX1_wetBySegments_67 rfl rfl ?_
          refine jk_iload (q := 70) dX1_wetBySegments_68 rfl rfl ?_
          refine jk_iconst (q := 71) dX1_wetBySegments_70 rfl ?_
          refine jk_iadd (q := 72) dX1_wetBySegments_71 rfl ?_
          refine jk_ialdR (q := 73) (by first | exact hba.1.1 | exact hs.1 | exact hs.2.1 _ _ rfl | exact (cl_rows hs hq4).1 | exact (cl_rows hs hq4).2 | assumption) (by first | exact jk_row_same _ _ _ | ((repeat rewrite [jk_row_ne _ _ (by omega)]); first | exact jk_row_same _ _ _ | rfl)) (by first | assumption | decide | omega | exact jB_01 _ | exact jB_in _ | exact ⟨by omega, by omega⟩) dX1_wetBySegments_72 rfl ?_
          rw [e2]
          refine jk_aload_n (q := 74) dX1_wetBySegments_73 rfl rfl ?_
          refine jk_iload (q := 76) dX1_wetBySegments_74 rfl rfl ?_
          refine jk_ialdR (q := 77) (by first | exact hba.1.1 | exact hs.1 | exact hs.2.1 _ _ rfl | exact (cl_rows hs hq4).1 | exact (cl_rows hs hq4).2 | assumption) (by first | exact jk_row_same _ _ _ | ((repeat rewrite [jk_row_ne _ _ (by omega)]); first | exact jk_row_same _ _ _ | rfl)) (by first | assumption | decide | omega | exact jB_01 _ | exact jB_in _ | exact ⟨by omega, by omega⟩) dX1_wetBySegments_76 rfl ?_
          rw [e1]
          refine jk_isub (q := 78) dX1_wetBySegments_77 rfl ?_
          refine jk_istore8 (q := 80) dX1_wetBySegments_78 rfl rfl rfl ?_
          refine jk_iload (q := 82) dX1_wetBySegments_80 rfl rfl ?_
          refine jk_iload (q := 84) dX1_wetBySegments_82 rfl rfl ?_
          refine jk_aload (q := 86) dX1_wetBySegments_84 rfl rfl ?_
          refine jk_iload (q := 88) dX1_wetBySegments_86 rfl rfl ?_
          refine jk_iconst (q := 89) dX1_wetBySegments_88 rfl ?_
          refine jk_iadd (q := 90) dX1_wetBySegments_89 rfl ?_
          refine jk_ialdR (q := 91) (by first | exact hba.1.1 | exact hs.1 | exact hs.2.1 _ _ rfl | exact (cl_rows hs hq4).1 | exact (cl_rows hs hq4).2 | assumption) (by first | exact jk_row_same _ _ _ | ((repeat rewrite [jk_row_ne _ _ (by omega)]); first | exact jk_row_same _ _ _ | rfl)) (by first | assumption | decide | omega | exact jB_01 _ | exact jB_in _ | exact ⟨by omega, by omega⟩) dX1_wetBySegments_90 rfl ?_
          rw [a4]
          refine jk_aload (q := 93) dX1_wetBySegments_91 rfl rfl ?_
          refine jk_iload (q := 95) dX1_wetBySegments_93 rfl rfl ?_
          refine jk_ialdR (q := 96) (by first | exact hba.1.1 | exact hs.1 | exact hs.2.1 _ _ rfl | exact (cl_rows hs hq4).1 | exact (cl_rows hs hq4).2 | assumption) (by first | exact jk_row_same _ _ _ | ((repeat rewrite [jk_row_ne _ _ (by omega)]); first | exact jk_row_same _ _ _ | rfl)) (by first | assumption | decide | omega | exact jB_01 _ | exact jB_in _ | exact ⟨by omega, by omega⟩) dX1_wetBySegments_95 rfl ?_
          rw [a2]
          refine jk_isub (q := 97) dX1_wetBySegments_96 rfl ?_
          refine jk_iload_n (q := 98) dX1_wetBySegments_97 rfl rfl ?_
          refine jk_aload (q := 100) dX1_wetBySegments_98 rfl rfl ?_
          refine jk_iload (q := 102) dX1_wetBySegments_100 rfl rfl ?_
          refine jk_ialdR (q := 103) (by first | exact hba.1.1 | exact hs.1 | exact hs.2.1 _ _ rfl | exact (cl_rows hs hq4).1 | exact (cl_rows hs hq4).2 | assumption) (by first | exact jk_row_same _ _ _ | ((repeat rewrite [jk_row_ne _ _ (by omega)]); first | exact jk_row_same _ _ _ | rfl)) (by first | assumption | decide | omega | exact jB_01 _ | exact jB_in _ | exact ⟨by omega, by omega⟩) dX1_wetBySegments_102 rfl ?_
          rw [a2]
          refine jk_isub (q := 104) dX1_wetBySegments_103 rfl ?_
          refine jk_cS3p (q := 107) (c_X1_wetOfSegment ⟨by omega, by omega⟩ ⟨by omega, by omega⟩ ⟨by omega, by omega⟩) jm_X1_wetOfSegment jw_1124 rfl rfl rfl dX1_wetBySegments_104 rfl ?_
          refine jk_iadd (q := 108) dX1_wetBySegments_107 rfl ?_
          refine jk_istore6 (q := 110) dX1_wetBySegments_108 rfl rfl rfl ?_
          refine jk_iinc7 (q := 113) dX1_wetBySegments_110 rfl rfl rfl ?_
          refine jk_goto (q := 60) dX1_wetBySegments_113 rfl ?_
          refine jk_convw (ih60 (by omega)) (jk_wkS rfl (jk_wkS rfl (jk_wkS rfl (jk_wkS rfl (jk_wkS rfl (jk_wkS rfl (jk_wkS (jk_li ?_) (jk_wkS rfl (jk_wkN jk_wk0)))))))))
          show (jB (decide (g (200 + 10 * (q : Int) + (g (156 + (q : Int)) - 1)) < sf))) + ((jk_sum (cb_sg g (q : Int) sf) k60) + cb_sg g (q : Int) sf (k60 : Int)) = _
          unfold cb_sg
          rw [show 200 + 10 * (q : Int) + ((k60 : Int) + 1) = 200 + 10 * (q : Int) + (k60 : Int) + 1 by omega]; omega
      exact jk_convw (L60 0 (Nat.zero_le _)) (jk_wkS rfl (jk_wkS rfl (jk_wkS rfl (jk_wkS rfl (jk_wkS rfl (jk_wkS rfl (jk_wkS (jk_li (by show (jB (decide (g (200 + 10 * (q : Int) + (g (156 + (q : Int)) - 1)) < sf))) + 0 = _; first | (rw [decide_eq_true (by omega)]; rfl) | (rw [decide_eq_false (by omega)]; rfl))) (jk_wkS rfl (jk_wkN jk_wk0)))))))))
    · refine jk_iconst (q := 51) dX1_wetBySegments_50 rfl ?_
      refine jk_goto (q := 55) dX1_wetBySegments_51 rfl ?_
      refine jk_istore6 (q := 57) dX1_wetBySegments_55 rfl rfl rfl ?_
      refine jk_iconst (q := 58) dX1_wetBySegments_57 rfl ?_
      refine jk_istore7 (q := 60) dX1_wetBySegments_58 rfl rfl rfl ?_
      have L60 : ∀ k60 : Nat, k60 ≤ (g (156 + (q : Int)) - 1).toNat → jk_J G mX1_wetBySegments 60 [some (.ref b), some (jI (q : Int)), some (jI sf), some (.ref (s + (28 + 2 * q))), some (.ref (s + (38 + 2 * q))), some (jI (g (156 + (q : Int)) - 1)), some (jI ((jB (decide (g (200 + 10 * (q : Int) + (g (156 + (q : Int)) - 1)) < sf))) + (jk_sum (cb_sg g (q : Int) sf) k60))), some (jI (k60 : Int)), none] [] n t σ ρ 0 0 (jk_q (some (jI (cb_wc g (q : Int) sf))) n t σ ρ) jk_no := by
        refine jk_loop _ (fun k60 hk60 ih60 => ?_)
        refine jk_iload (q := 62) dX1_wetBySegments_60 rfl rfl ?_
        refine jk_iload (q := 64) dX1_wetBySegments_62 rfl rfl ?_
        refine jk_icmp_ge (q := 116) (q2 := 67) dX1_wetBySegments_64 rfl rfl (by first | assumption | decide | omega | exact jB_01 _ | exact jB_in _ | exact ⟨by omega, by omega⟩) (by first | assumption | decide | omega | exact jB_01 _ | exact jB_in _ | exact ⟨by omega, by omega⟩) (fun z4 => ?_) (fun z4 => ?_)
        · refine jk_iload (q := 118) dX1_wetBySegments_116 rfl rfl ?_
          exact jk_iret rfl dX1_wetBySegments_118 (by refine jk_qI ?_; rw [cb_segs x2 ⟨by omega, hst.2⟩, show (g (156 + (q : Int)) - 1).toNat = k60 by omega])
        · obtain ⟨a1, a2⟩ := r3 (k60 : Int) ⟨by omega, by omega⟩
          obtain ⟨a3, a4⟩ := r3 ((k60 : Int) + 1) ⟨by omega, by omega⟩
          have a5 := x2 (k60 : Int) ⟨by omega, by omega⟩
          have a6 := x1 (k60 : Int) ⟨by omega, by omega⟩
          have a7 := x1 ((k60 : Int) + 1) ⟨by omega, by omega⟩
          have a8 := hob (k60 : Int) ⟨by omega, by omega⟩
          have a9 := hob ((k60 : Int) + 1) ⟨by omega, by omega⟩
          have e1 : σ (s + (28 + 2 * q)) (k60 : Int) = md_Ds g (q : Int) (k60 : Int) := a1
          have e2 : σ (s + (28 + 2 * q)) ((k60 : Int) + 1) = md_Ds g (q : Int) ((k60 : Int) + 1) := a3
          refine jk_aload_n (q := 68) dX1_wetBySegments_67 rfl rfl ?_
          refine jk_iload (q := 70) dX1_wetBySegments_68 rfl rfl ?_
          refine jk_iconst (q := 71) dX1_wetBySegments_70 rfl ?_
          refine jk_iadd (q := 72) dX1_wetBySegments_71 rfl ?_
          refine jk_ialdR (q := 73) (by first | exact hba.1.1 | exact hs.1 | exact hs.2.1 _ _ rfl | exact (cl_rows hs hq4).1 | exact (cl_rows hs hq4).2 | assumption) (by first | exact jk_row_same _ _ _ | ((repeat rewrite [jk_row_ne _ _ (by omega)]); first | exact jk_row_same _ _ _ | rfl)) (by first | assumption | decide | omega | exact jB_01 _ | exact jB_in _ | exact ⟨by omega, by omega⟩) dX1_wetBySegments_72 rfl ?_
          rw [e2]
          refine jk_aload_n (q := 74) dX1_wetBySegments_73 rfl rfl ?_
          refine jk_iload (q := 76) dX1_wetBySegments_74 rfl rfl ?_
          refine jk_ialdR (q := 77) (by first | exact hba.1.1 | exact hs.1 | exact hs.2.1 _ _ rfl | exact (cl_rows hs hq4).1 | exact (cl_rows hs hq4).2 | assumption) (by first | exact jk_row_same _ _ _ | ((repeat rewrite [jk_row_ne _ _ (by omega)]); first | exact jk_row_same _ _ _ | rfl)) (by first | assumption | decide | omega | exact jB_01 _ | exact jB_in _ | exact ⟨by omega, by omega⟩) dX1_wetBySegments_76 rfl ?_
          rw [e1]
          refine jk_isub (q := 78) dX1_wetBySegments_77 rfl ?_
          refine jk_istore8 (q := 80) dX1_wetBySegments_78 rfl rfl rfl ?_
          refine jk_iload (q := 82) dX1_wetBySegments_80 rfl rfl ?_
          refine jk_iload (q := 84) dX1_wetBySegments_82 rfl rfl ?_
          refine jk_aload (q := 86) dX1_wetBySegments_84 rfl rfl ?_
          refine jk_iload (q := 88) dX1_wetBySegments_86 rfl rfl ?_
          refine jk_iconst (q := 89) dX1_wetBySegments_88 rfl ?_
          refine jk_iadd (q := 90) dX1_wetBySegments_89 rfl ?_
          refine jk_ialdR (q := 91) (by first | exact hba.1.1 | exact hs.1 | exact hs.2.1 _ _ rfl | exact (cl_rows hs hq4).1 | exact (cl_rows hs hq4).2 | assumption) (by first | exact jk_row_same _ _ _ | ((repeat rewrite [jk_row_ne _ _ (by omega)]); first | exact jk_row_same _ _ _ | rfl)) (by first | assumption | decide | omega | exact jB_01 _ | exact jB_in _ | exact ⟨by omega, by omega⟩) dX1_wetBySegments_90 rfl ?_
          rw [a4]
          refine jk_aload (q := 93) dX1_wetBySegments_91 rfl rfl ?_
          refine jk_iload (q := 95) dX1_wetBySegments_93 rfl rfl ?_
          refine jk_ialdR (q := 96) (by first | exact hba.1.1 | exact hs.1 | exact hs.2.1 _ _ rfl | exact (cl_rows hs hq4).1 | exact (cl_rows hs hq4).2 | assumption) (by first | exact jk_row_same _ _ _ | ((repeat rewrite [jk_row_ne _ _ (by omega)]); first | exact jk_row_same _ _ _ | rfl)) (by first | assumption | decide | omega | exact jB_01 _ | exact jB_in _ | exact ⟨by omega, by omega⟩) dX1_wetBySegments_95 rfl ?_
          rw [a2]
          refine jk_isub (q := 97) dX1_wetBySegments_96 rfl ?_
          refine jk_iload_n (q := 98) dX1_wetBySegments_97 rfl rfl ?_
          refine jk_aload (q := 100) dX1_wetBySegments_98 rfl rfl ?_
          refine jk_iload (q := 102) dX1_wetBySegments_100 rfl rfl ?_
          refine jk_ialdR (q := 103) (by first | exact hba.1.1 | exact hs.1 | exact hs.2.1 _ _ rfl | exact (cl_rows hs hq4).1 | exact (cl_rows hs hq4).2 | assumption) (by first | exact jk_row_same _ _ _ | ((repeat rewrite [jk_row_ne _ _ (by omega)]); first | exact jk_row_same _ _ _ | rfl)) (by first | assumption | decide | omega | exact jB_01 _ | exact jB_in _ | exact ⟨by omega, by omega⟩) dX1_wetBySegments_102 rfl ?_
          rw [a2]
          refine jk_isub (q := 104) dX1_wetBySegments_103 rfl ?_
          refine jk_cS3p (q := 107) (c_X1_wetOfSegment ⟨by omega, by omega⟩ ⟨by omega, by omega⟩ ⟨by omega, by omega⟩) jm_X1_wetOfSegment jw_1124 rfl rfl rfl dX1_wetBySegments_104 rfl ?_
          refine jk_iadd (q := 108) dX1_wetBySegments_107 rfl ?_
          refine jk_istore6 (q := 110) dX1_wetBySegments_108 rfl rfl rfl ?_
          refine jk_iinc7 (q := 113) dX1_wetBySegments_110 rfl rfl rfl ?_
          refine jk_goto (q := 60) dX1_wetBySegments_113 rfl ?_
          refine jk_convw (ih60 (by omega)) (jk_wkS rfl (jk_wkS rfl (jk_wkS rfl (jk_wkS rfl (jk_wkS rfl (jk_wkS rfl (jk_wkS (jk_li ?_) (jk_wkS rfl (jk_wkN jk_wk0)))))))))
          show (jB (decide (g (200 + 10 * (q : Int) + (g (156 + (q : Int)) - 1)) < sf))) + ((jk_sum (cb_sg g (q : Int) sf) k60) + cb_sg g (q : Int) sf (k60 : Int)) = _
          unfold cb_sg
          rw [show 200 + 10 * (q : Int) + ((k60 : Int) + 1) = 200 + 10 * (q : Int) + (k60 : Int) + 1 by omega]; omega
      exact jk_convw (L60 0 (Nat.zero_le _)) (jk_wkS rfl (jk_wkS rfl (jk_wkS rfl (jk_wkS rfl (jk_wkS rfl (jk_wkS rfl (jk_wkS (jk_li (by show (jB (decide (g (200 + 10 * (q : Int) + (g (156 + (q : Int)) - 1)) < sf))) + 0 = _; first | (rw [decide_eq_true (by omega)]; rfl) | (rw [decide_eq_false (by omega)]; rfl))) (jk_wkS rfl (jk_wkN jk_wk0)))))))))
  · refine jk_iconst (q := 40) dX1_wetBySegments_39 rfl ?_
    exact jk_iret rfl dX1_wetBySegments_40 (by refine jk_qI ?_; unfold cb_wc; rw [if_neg (by omega)])
end CB2
