section S4
theorem zs_ln4 : ∀ i, i < 12 → 4 ≤ zs_len i := by decide
section SB
variable {Bf : Int → Int} {ty p : Int}
theorem cs_ft_eq {i : Nat} (hi : i < 12) : cs_ft Bf ty p (zs_tx i) = if cs_sg Bf ty p = zs_ch i 0 then (if cs_sg Bf ty (p + 1) = zs_ch i 1 then 2 + cs_ft Bf ty (p + 1 + 1) ((zs_tx i).drop 2) else 1) else 0 := by
  have h4 := zs_ln4 i hi
  have e : zs_tx i = zs_ch i 0 :: zs_ch i 1 :: (zs_tx i).drop 2 := by
    have h0 := cs_drop (i := i) (k := 0) (by omega)
    have h1 := cs_drop (i := i) (k := 1) (by omega)
    rw [List.drop_zero] at h0
    rw [h0]; rw [h0] at h1
    congr 1
  rw [e]
  show (if cs_sg Bf ty p = zs_ch i 0 then 1 + (if cs_sg Bf ty (p + 1) = zs_ch i 1 then 1 + cs_ft Bf ty (p + 1 + 1) ((zs_tx i).drop 2) else 0) else 0) = _
  split
  · split
    · rw [← e]; omega
    · rfl
  · rfl
/-- the word that the first signs choose -/
def cy_pk (Bf : Int → Int) (ty p : Int) (k : Nat) : Prop := cs_sg Bf ty p = zs_ch k 0 ∧ ∀ j, j < 12 → j ≠ k → zs_ch j 0 = zs_ch k 0 → ¬ cs_sg Bf ty (p + 1) = zs_ch j 1
theorem cy_pk_ft {k : Nat} (hk : k < 12) (h : cy_pk Bf ty p k) : 1 ≤ cs_ft Bf ty p (zs_tx k) ∧ ∀ j, j < 12 → j ≠ k → cs_ft Bf ty p (zs_tx j) ≤ 1 := by
  refine ⟨?_, fun j hj hjk => ?_⟩
  · rw [cs_ft_eq hk, if_pos h.1]; split <;> omega
  · rw [cs_ft_eq hj]
    split
    · rename_i h2
      rw [if_neg (h.2 j hj hjk (h2.symm.trans h.1))]
      omega
    · omega
theorem cs_wd_pk {k : Nat} (hk : k < 12) (h : cy_pk Bf ty p k) : cs_wd Bf ty p 12 0 0 = if cs_ft Bf ty p (zs_tx k) = zs_len k then (some k, zs_len k) else (none, cs_ft Bf ty p (zs_tx k)) := by
  obtain ⟨h1, h2⟩ := cy_pk_ft hk h
  have L1 : ∀ m i : Nat, i + m = 12 → k < i → cs_wd Bf ty p m i (cs_ft Bf ty p (zs_tx k)) = (none, cs_ft Bf ty p (zs_tx k)) := by
    intro m
    induction m with
    | zero => intro i _ _; rfl
    | succ m ih =>
      intro i hi hk2
      have h3 := h2 i (by omega) (by omega)
      have h4 := zs_ln4 i (by omega)
      show (if cs_ft Bf ty p (zs_tx i) = zs_len i then _ else _) = _
      rw [if_neg (by omega), if_neg (by omega)]
      exact ih (i + 1) (by omega) (by omega)
  have L2 : ∀ m i f : Nat, i + m = 12 → i ≤ k → f ≤ cs_ft Bf ty p (zs_tx k) → cs_wd Bf ty p m i f = if cs_ft Bf ty p (zs_tx k) = zs_len k then (some k, zs_len k) else (none, cs_ft Bf ty p (zs_tx k)) := by
    intro m
    induction m with
    | zero => intro i f h3 h4 _; omega
    | succ m ih =>
      intro i f hi hk2 hf
      by_cases he : i = k
      · subst he
        show (if cs_ft Bf ty p (zs_tx i) = zs_len i then _ else _) = _
        by_cases hl : cs_ft Bf ty p (zs_tx i) = zs_len i
        · rw [if_pos hl, if_pos hl]
        · rw [if_neg hl, if_neg hl]
          rw [show (if f < cs_ft Bf ty p (zs_tx i) then cs_ft Bf ty p (zs_tx i) else f) = cs_ft Bf ty p (zs_tx i) by split <;> omega]
          exact L1 m (i + 1) (by omega) (by omega)
      · have h3 := h2 i (by omega) he
        have h4 := zs_ln4 i (by omega)
        show (if cs_ft Bf ty p (zs_tx i) = zs_len i then _ else _) = _
        rw [if_neg (by omega)]
        exact ih (i + 1) _ (by omega) (by omega) (by split <;> omega)
  exact L2 12 0 0 rfl (Nat.zero_le _) (Nat.zero_le _)
theorem cs_wd_no (h : ∀ j, j < 12 → ¬ cs_sg Bf ty p = zs_ch j 0) : cs_wd Bf ty p 12 0 0 = (none, 0) := by
  have L : ∀ m i : Nat, i + m = 12 → cs_wd Bf ty p m i 0 = (none, 0) := by
    intro m
    induction m with
    | zero => intro i _; rfl
    | succ m ih =>
      intro i hi
      have e : cs_ft Bf ty p (zs_tx i) = 0 := by rw [cs_ft_eq (by omega), if_neg (h i (by omega))]
      have h4 := zs_ln4 i (by omega)
      show (if cs_ft Bf ty p (zs_tx i) = zs_len i then _ else _) = _
      rw [e, if_neg (by omega), if_neg (by omega)]
      exact ih (i + 1) (by omega)
  exact L 12 0 rfl
/-- a command that the class reads, and the model's -/
def cs_cq (Bf : Int → Int) (ty p K : Int) (P r : Int → Int) : Prop :=
  ((cs_wd Bf ty p 12 0 0).1 = none ∧ (md_cmd Bf ty K (p, false) P).1 = (p + ((cs_wd Bf ty p 12 0 0).2 : Nat), true)) ∨
  ∃ k, k < 12 ∧ cs_wd Bf ty p 12 0 0 = (some k, zs_len k) ∧ ∃ r', cs_rl (md_cmd Bf ty K (p, false) P).1 (cs_fo Bf ty (zs_tx (zs_fm k)) (p + (zs_len k : Nat)) r) (cs_na k) r' ∧
    (md_cmd Bf ty K (p, false) P).2 K = cs_lt k ∧ ∀ i : Nat, i < cs_na k → (md_cmd Bf ty K (p, false) P).2 (K + 1 + (i : Int)) = r' (i : Int)
theorem cs_tl {k : Nat} (hk : k < 12) {c : Int} {tl : List Int} (ht : zs_tx k = c :: tl) (hp : 0 ≤ p) (hs : cs_sg Bf ty p = c) : md_ndl Bf ty tl (p + 1, false) = (p + (cs_ft Bf ty p (zs_tx k) : Nat), decide (cs_ft Bf ty p (zs_tx k) < zs_len k)) := by
  have hc : ∀ c2, c2 ∈ zs_tx k → 0 < c2 := by
    intro c2 h2
    obtain ⟨j, hj, e⟩ := List.mem_iff_getElem.mp h2
    have := (zs_cp k (by omega) j hj).1
    unfold zs_ch at this
    rw [List.getD_eq_getElem?_getD, List.getElem?_eq_getElem hj, e] at this
    exact this
  have h := cs_ndl (Bf := Bf) (ty := ty) (zs_tx k) p hp hc
  rw [← show md_ndl Bf ty (zs_tx k) (p, false) = md_ndl Bf ty tl (p + 1, false) by
    rw [ht]; show md_ndl Bf ty tl (md_nd Bf ty c (p, false)) = _
    rw [cs_nd1 hp (hc c (by rw [ht]; exact List.mem_cons_self ..)) hs]]
  exact h
theorem cs_he2 {c : Int} (hp : 0 ≤ p) (hc : 0 < c) : cs_sg Bf ty p = c ↔ md_he Bf ty p = c := cs_sg_he hp hc
theorem cs_u0 : ∀ j, j < 12 → j ≠ 0 → zs_ch j 0 = zs_ch 0 0 → j = 9 := by decide
theorem cs_q0 {K : Int} {P r : Int → Int} (hp : 0 ≤ p) (hl : md_he Bf ty p = 112) (h : ¬ md_he Bf ty (p + 1) = 114) : cs_cq Bf ty p K P r := by
  have hs := (cs_sg_he (Bf := Bf) (ty := ty) (c := 112) hp (by decide)).mpr hl
  have hpk : cy_pk Bf ty p 0 := ⟨hs, fun j hj hjk h0 h1 => by have := cs_u0 j hj hjk h0; subst this; exact h ((cs_sg_he (Bf := Bf) (ty := ty) (c := 114) (by omega) (by decide)).mp h1)⟩
  have hw := cs_wd_pk (k := 0) (by decide) hpk
  have ht := cs_tl (k := 0) (by decide) (c := 112) (tl := [111, 105, 110, 116]) rfl hp hs
  have hle : cs_ft Bf ty p (zs_tx 0) ≤ 5 := cs_ft_le _ _
  have hz : zs_len 0 = 5 := rfl
  by_cases hf : cs_ft Bf ty p (zs_tx 0) = 5
  · rw [if_pos (hf.trans hz.symm)] at hw
    rw [hf, show decide (5 < zs_len 0) = false from rfl, show p + ((5 : Nat) : Int) = p + 5 from rfl] at ht
    refine Or.inr ⟨0, by decide, hw, ?_⟩
    rw [cs_c0 hl h]
    exact cs_e0 ht
  · rw [if_neg (fun h => hf (h.trans hz))] at hw
    rw [show decide (cs_ft Bf ty p (zs_tx 0) < zs_len 0) = true from decide_eq_true (by omega)] at ht
    refine Or.inl ⟨by rw [hw], ?_⟩
    rw [cs_c0 hl h, hw]
    exact cs_d0 ht
theorem cs_u1 : ∀ j, j < 12 → j ≠ 1 → zs_ch j 0 = zs_ch 1 0 → j = 2 := by decide
theorem cs_q1 {K : Int} {P r : Int → Int} (hp : 0 ≤ p) (hl : md_he Bf ty p = 102) (h : ¬ md_he Bf ty (p + 1) = 114) : cs_cq Bf ty p K P r := by
  have hs := (cs_sg_he (Bf := Bf) (ty := ty) (c := 102) hp (by decide)).mpr hl
  have hpk : cy_pk Bf ty p 1 := ⟨hs, fun j hj hjk h0 h1 => by have := cs_u1 j hj hjk h0; subst this; exact h ((cs_sg_he (Bf := Bf) (ty := ty) (c := 114) (by omega) (by decide)).mp h1)⟩
  have hw := cs_wd_pk (k := 1) (by decide) hpk
  have ht := cs_tl (k := 1) (by decide) (c := 102) (tl := [105, 120, 32]) rfl hp hs
  have hle : cs_ft Bf ty p (zs_tx 1) ≤ 4 := cs_ft_le _ _
  have hz : zs_len 1 = 4 := rfl
  by_cases hf : cs_ft Bf ty p (zs_tx 1) = 4
  · rw [if_pos (hf.trans hz.symm)] at hw
    rw [hf, show decide (4 < zs_len 1) = false from rfl, show p + ((4 : Nat) : Int) = p + 4 from rfl] at ht
    refine Or.inr ⟨1, by decide, hw, ?_⟩
    rw [cs_c1 hl h]
    exact cs_e1 ht
  · rw [if_neg (fun h => hf (h.trans hz))] at hw
    rw [show decide (cs_ft Bf ty p (zs_tx 1) < zs_len 1) = true from decide_eq_true (by omega)] at ht
    refine Or.inl ⟨by rw [hw], ?_⟩
    rw [cs_c1 hl h, hw]
    exact cs_d1 ht
theorem cs_u2 : ∀ j, j < 12 → j ≠ 2 → zs_ch j 0 = zs_ch 2 0 → j = 1 := by decide
theorem cs_q2 {K : Int} {P r : Int → Int} (hp : 0 ≤ p) (hl : md_he Bf ty p = 102) (h : md_he Bf ty (p + 1) = 114) : cs_cq Bf ty p K P r := by
  have hs := (cs_sg_he (Bf := Bf) (ty := ty) (c := 102) hp (by decide)).mpr hl
  have hpk : cy_pk Bf ty p 2 := ⟨hs, fun j hj hjk h0 h1 => by have := cs_u2 j hj hjk h0; subst this; rw [(cs_sg_he (Bf := Bf) (ty := ty) (c := 114) (by omega) (by decide)).mpr h] at h1; exact absurd h1 (by decide)⟩
  have hw := cs_wd_pk (k := 2) (by decide) hpk
  have ht := cs_tl (k := 2) (by decide) (c := 102) (tl := [114, 101, 101, 32]) rfl hp hs
  have hle : cs_ft Bf ty p (zs_tx 2) ≤ 5 := cs_ft_le _ _
  have hz : zs_len 2 = 5 := rfl
  by_cases hf : cs_ft Bf ty p (zs_tx 2) = 5
  · rw [if_pos (hf.trans hz.symm)] at hw
    rw [hf, show decide (5 < zs_len 2) = false from rfl, show p + ((5 : Nat) : Int) = p + 5 from rfl] at ht
    refine Or.inr ⟨2, by decide, hw, ?_⟩
    rw [cs_c2 hl h]
    exact cs_e2 ht
  · rw [if_neg (fun h => hf (h.trans hz))] at hw
    rw [show decide (cs_ft Bf ty p (zs_tx 2) < zs_len 2) = true from decide_eq_true (by omega)] at ht
    refine Or.inl ⟨by rw [hw], ?_⟩
    rw [cs_c2 hl h, hw]
    exact cs_d2 ht
theorem cs_u3 : ∀ j, j < 12 → j ≠ 3 → ¬ zs_ch j 0 = zs_ch 3 0 := by decide
theorem cs_q3 {K : Int} {P r : Int → Int} (hp : 0 ≤ p) (hl : md_he Bf ty p = 108) : cs_cq Bf ty p K P r := by
  have hs := (cs_sg_he (Bf := Bf) (ty := ty) (c := 108) hp (by decide)).mpr hl
  have hpk : cy_pk Bf ty p 3 := ⟨hs, fun j hj hjk h0 => absurd h0 (cs_u3 j hj hjk)⟩
  have hw := cs_wd_pk (k := 3) (by decide) hpk
  have ht := cs_tl (k := 3) (by decide) (c := 108) (tl := [105, 110, 101, 32]) rfl hp hs
  have hle : cs_ft Bf ty p (zs_tx 3) ≤ 5 := cs_ft_le _ _
  have hz : zs_len 3 = 5 := rfl
  by_cases hf : cs_ft Bf ty p (zs_tx 3) = 5
  · rw [if_pos (hf.trans hz.symm)] at hw
    rw [hf, show decide (5 < zs_len 3) = false from rfl, show p + ((5 : Nat) : Int) = p + 5 from rfl] at ht
    refine Or.inr ⟨3, by decide, hw, ?_⟩
    rw [cs_c3 hl]
    exact cs_e3 ht
  · rw [if_neg (fun h => hf (h.trans hz))] at hw
    rw [show decide (cs_ft Bf ty p (zs_tx 3) < zs_len 3) = true from decide_eq_true (by omega)] at ht
    refine Or.inl ⟨by rw [hw], ?_⟩
    rw [cs_c3 hl, hw]
    exact cs_d3 ht
theorem cs_u4 : ∀ j, j < 12 → j ≠ 4 → ¬ zs_ch j 0 = zs_ch 4 0 := by decide
theorem cs_q4 {K : Int} {P r : Int → Int} (hp : 0 ≤ p) (hl : md_he Bf ty p = 98) : cs_cq Bf ty p K P r := by
  have hs := (cs_sg_he (Bf := Bf) (ty := ty) (c := 98) hp (by decide)).mpr hl
  have hpk : cy_pk Bf ty p 4 := ⟨hs, fun j hj hjk h0 => absurd h0 (cs_u4 j hj hjk)⟩
  have hw := cs_wd_pk (k := 4) (by decide) hpk
  have ht := cs_tl (k := 4) (by decide) (c := 98) (tl := [97, 99, 107, 32]) rfl hp hs
  have hle : cs_ft Bf ty p (zs_tx 4) ≤ 5 := cs_ft_le _ _
  have hz : zs_len 4 = 5 := rfl
  by_cases hf : cs_ft Bf ty p (zs_tx 4) = 5
  · rw [if_pos (hf.trans hz.symm)] at hw
    rw [hf, show decide (5 < zs_len 4) = false from rfl, show p + ((5 : Nat) : Int) = p + 5 from rfl] at ht
    refine Or.inr ⟨4, by decide, hw, ?_⟩
    rw [cs_c4 hl]
    exact cs_e4 ht
  · rw [if_neg (fun h => hf (h.trans hz))] at hw
    rw [show decide (cs_ft Bf ty p (zs_tx 4) < zs_len 4) = true from decide_eq_true (by omega)] at ht
    refine Or.inl ⟨by rw [hw], ?_⟩
    rw [cs_c4 hl, hw]
    exact cs_d4 ht
theorem cs_u5 : ∀ j, j < 12 → j ≠ 5 → ¬ zs_ch j 0 = zs_ch 5 0 := by decide
theorem cs_q5 {K : Int} {P r : Int → Int} (hp : 0 ≤ p) (hl : md_he Bf ty p = 101) : cs_cq Bf ty p K P r := by
  have hs := (cs_sg_he (Bf := Bf) (ty := ty) (c := 101) hp (by decide)).mpr hl
  have hpk : cy_pk Bf ty p 5 := ⟨hs, fun j hj hjk h0 => absurd h0 (cs_u5 j hj hjk)⟩
  have hw := cs_wd_pk (k := 5) (by decide) hpk
  have ht := cs_tl (k := 5) (by decide) (c := 101) (tl := [120, 99, 108, 117, 100, 101, 32]) rfl hp hs
  have hle : cs_ft Bf ty p (zs_tx 5) ≤ 8 := cs_ft_le _ _
  have hz : zs_len 5 = 8 := rfl
  by_cases hf : cs_ft Bf ty p (zs_tx 5) = 8
  · rw [if_pos (hf.trans hz.symm)] at hw
    rw [hf, show decide (8 < zs_len 5) = false from rfl, show p + ((8 : Nat) : Int) = p + 8 from rfl] at ht
    refine Or.inr ⟨5, by decide, hw, ?_⟩
    rw [cs_c5 hl]
    exact cs_e5 ht
  · rw [if_neg (fun h => hf (h.trans hz))] at hw
    rw [show decide (cs_ft Bf ty p (zs_tx 5) < zs_len 5) = true from decide_eq_true (by omega)] at ht
    refine Or.inl ⟨by rw [hw], ?_⟩
    rw [cs_c5 hl, hw]
    exact cs_d5 ht
theorem cs_u6 : ∀ j, j < 12 → j ≠ 6 → ¬ zs_ch j 0 = zs_ch 6 0 := by decide
theorem cs_q6 {K : Int} {P r : Int → Int} (hp : 0 ≤ p) (hl : md_he Bf ty p = 105) : cs_cq Bf ty p K P r := by
  have hs := (cs_sg_he (Bf := Bf) (ty := ty) (c := 105) hp (by decide)).mpr hl
  have hpk : cy_pk Bf ty p 6 := ⟨hs, fun j hj hjk h0 => absurd h0 (cs_u6 j hj hjk)⟩
  have hw := cs_wd_pk (k := 6) (by decide) hpk
  have ht := cs_tl (k := 6) (by decide) (c := 105) (tl := [110, 99, 108, 117, 100, 101, 32]) rfl hp hs
  have hle : cs_ft Bf ty p (zs_tx 6) ≤ 8 := cs_ft_le _ _
  have hz : zs_len 6 = 8 := rfl
  by_cases hf : cs_ft Bf ty p (zs_tx 6) = 8
  · rw [if_pos (hf.trans hz.symm)] at hw
    rw [hf, show decide (8 < zs_len 6) = false from rfl, show p + ((8 : Nat) : Int) = p + 8 from rfl] at ht
    refine Or.inr ⟨6, by decide, hw, ?_⟩
    rw [cs_c6 hl]
    exact cs_e6 ht
  · rw [if_neg (fun h => hf (h.trans hz))] at hw
    rw [show decide (cs_ft Bf ty p (zs_tx 6) < zs_len 6) = true from decide_eq_true (by omega)] at ht
    refine Or.inl ⟨by rw [hw], ?_⟩
    rw [cs_c6 hl, hw]
    exact cs_d6 ht
theorem cs_u7 : ∀ j, j < 12 → j ≠ 7 → zs_ch j 0 = zs_ch 7 0 → j = 10 := by decide
theorem cs_q7 {K : Int} {P r : Int → Int} (hp : 0 ≤ p) (hl : md_he Bf ty p = 115) (h : md_he Bf ty (p + 1) = 104) : cs_cq Bf ty p K P r := by
  have hs := (cs_sg_he (Bf := Bf) (ty := ty) (c := 115) hp (by decide)).mpr hl
  have hpk : cy_pk Bf ty p 7 := ⟨hs, fun j hj hjk h0 h1 => by have := cs_u7 j hj hjk h0; subst this; rw [(cs_sg_he (Bf := Bf) (ty := ty) (c := 104) (by omega) (by decide)).mpr h] at h1; exact absurd h1 (by decide)⟩
  have hw := cs_wd_pk (k := 7) (by decide) hpk
  have ht := cs_tl (k := 7) (by decide) (c := 115) (tl := [104, 97, 114, 101, 32]) rfl hp hs
  have hle : cs_ft Bf ty p (zs_tx 7) ≤ 6 := cs_ft_le _ _
  have hz : zs_len 7 = 6 := rfl
  by_cases hf : cs_ft Bf ty p (zs_tx 7) = 6
  · rw [if_pos (hf.trans hz.symm)] at hw
    rw [hf, show decide (6 < zs_len 7) = false from rfl, show p + ((6 : Nat) : Int) = p + 6 from rfl] at ht
    refine Or.inr ⟨7, by decide, hw, ?_⟩
    rw [cs_c7 hl h]
    exact cs_e7 ht
  · rw [if_neg (fun h => hf (h.trans hz))] at hw
    rw [show decide (cs_ft Bf ty p (zs_tx 7) < zs_len 7) = true from decide_eq_true (by omega)] at ht
    refine Or.inl ⟨by rw [hw], ?_⟩
    rw [cs_c7 hl h, hw]
    exact cs_d7 ht
theorem cs_u8 : ∀ j, j < 12 → j ≠ 8 → ¬ zs_ch j 0 = zs_ch 8 0 := by decide
theorem cs_q8 {K : Int} {P r : Int → Int} (hp : 0 ≤ p) (hl : md_he Bf ty p = 114) : cs_cq Bf ty p K P r := by
  have hs := (cs_sg_he (Bf := Bf) (ty := ty) (c := 114) hp (by decide)).mpr hl
  have hpk : cy_pk Bf ty p 8 := ⟨hs, fun j hj hjk h0 => absurd h0 (cs_u8 j hj hjk)⟩
  have hw := cs_wd_pk (k := 8) (by decide) hpk
  have ht := cs_tl (k := 8) (by decide) (c := 114) (tl := [101, 115, 101, 116]) rfl hp hs
  have hle : cs_ft Bf ty p (zs_tx 8) ≤ 5 := cs_ft_le _ _
  have hz : zs_len 8 = 5 := rfl
  by_cases hf : cs_ft Bf ty p (zs_tx 8) = 5
  · rw [if_pos (hf.trans hz.symm)] at hw
    rw [hf, show decide (5 < zs_len 8) = false from rfl, show p + ((5 : Nat) : Int) = p + 5 from rfl] at ht
    refine Or.inr ⟨8, by decide, hw, ?_⟩
    rw [cs_c8 hl]
    exact cs_e8 ht
  · rw [if_neg (fun h => hf (h.trans hz))] at hw
    rw [show decide (cs_ft Bf ty p (zs_tx 8) < zs_len 8) = true from decide_eq_true (by omega)] at ht
    refine Or.inl ⟨by rw [hw], ?_⟩
    rw [cs_c8 hl, hw]
    exact cs_d8 ht
theorem cs_u9 : ∀ j, j < 12 → j ≠ 9 → zs_ch j 0 = zs_ch 9 0 → j = 0 := by decide
theorem cs_q9 {K : Int} {P r : Int → Int} (hp : 0 ≤ p) (hl : md_he Bf ty p = 112) (h : md_he Bf ty (p + 1) = 114) : cs_cq Bf ty p K P r := by
  have hs := (cs_sg_he (Bf := Bf) (ty := ty) (c := 112) hp (by decide)).mpr hl
  have hpk : cy_pk Bf ty p 9 := ⟨hs, fun j hj hjk h0 h1 => by have := cs_u9 j hj hjk h0; subst this; rw [(cs_sg_he (Bf := Bf) (ty := ty) (c := 114) (by omega) (by decide)).mpr h] at h1; exact absurd h1 (by decide)⟩
  have hw := cs_wd_pk (k := 9) (by decide) hpk
  have ht := cs_tl (k := 9) (by decide) (c := 112) (tl := [114, 111, 102, 105, 108, 101, 32]) rfl hp hs
  have hle : cs_ft Bf ty p (zs_tx 9) ≤ 8 := cs_ft_le _ _
  have hz : zs_len 9 = 8 := rfl
  by_cases hf : cs_ft Bf ty p (zs_tx 9) = 8
  · rw [if_pos (hf.trans hz.symm)] at hw
    rw [hf, show decide (8 < zs_len 9) = false from rfl, show p + ((8 : Nat) : Int) = p + 8 from rfl] at ht
    refine Or.inr ⟨9, by decide, hw, ?_⟩
    rw [cs_c9 hl h]
    exact cs_e9 ht
  · rw [if_neg (fun h => hf (h.trans hz))] at hw
    rw [show decide (cs_ft Bf ty p (zs_tx 9) < zs_len 9) = true from decide_eq_true (by omega)] at ht
    refine Or.inl ⟨by rw [hw], ?_⟩
    rw [cs_c9 hl h, hw]
    exact cs_d9 ht
theorem cs_u10 : ∀ j, j < 12 → j ≠ 10 → zs_ch j 0 = zs_ch 10 0 → j = 7 := by decide
theorem cs_q10 {K : Int} {P r : Int → Int} (hp : 0 ≤ p) (hl : md_he Bf ty p = 115) (h : ¬ md_he Bf ty (p + 1) = 104) : cs_cq Bf ty p K P r := by
  have hs := (cs_sg_he (Bf := Bf) (ty := ty) (c := 115) hp (by decide)).mpr hl
  have hpk : cy_pk Bf ty p 10 := ⟨hs, fun j hj hjk h0 h1 => by have := cs_u10 j hj hjk h0; subst this; exact h ((cs_sg_he (Bf := Bf) (ty := ty) (c := 104) (by omega) (by decide)).mp h1)⟩
  have hw := cs_wd_pk (k := 10) (by decide) hpk
  have ht := cs_tl (k := 10) (by decide) (c := 115) (tl := [116, 97, 116, 105, 111, 110, 32]) rfl hp hs
  have hle : cs_ft Bf ty p (zs_tx 10) ≤ 8 := cs_ft_le _ _
  have hz : zs_len 10 = 8 := rfl
  by_cases hf : cs_ft Bf ty p (zs_tx 10) = 8
  · rw [if_pos (hf.trans hz.symm)] at hw
    rw [hf, show decide (8 < zs_len 10) = false from rfl, show p + ((8 : Nat) : Int) = p + 8 from rfl] at ht
    refine Or.inr ⟨10, by decide, hw, ?_⟩
    rw [cs_c10 hl h]
    exact cs_e10 ht
  · rw [if_neg (fun h => hf (h.trans hz))] at hw
    rw [show decide (cs_ft Bf ty p (zs_tx 10) < zs_len 10) = true from decide_eq_true (by omega)] at ht
    refine Or.inl ⟨by rw [hw], ?_⟩
    rw [cs_c10 hl h, hw]
    exact cs_d10 ht
theorem cs_u11 : ∀ j, j < 12 → j ≠ 11 → ¬ zs_ch j 0 = zs_ch 11 0 := by decide
theorem cs_q11 {K : Int} {P r : Int → Int} (hp : 0 ≤ p) (hl : md_he Bf ty p = 119) : cs_cq Bf ty p K P r := by
  have hs := (cs_sg_he (Bf := Bf) (ty := ty) (c := 119) hp (by decide)).mpr hl
  have hpk : cy_pk Bf ty p 11 := ⟨hs, fun j hj hjk h0 => absurd h0 (cs_u11 j hj hjk)⟩
  have hw := cs_wd_pk (k := 11) (by decide) hpk
  have ht := cs_tl (k := 11) (by decide) (c := 119) (tl := [97, 116, 101, 114, 32]) rfl hp hs
  have hle : cs_ft Bf ty p (zs_tx 11) ≤ 6 := cs_ft_le _ _
  have hz : zs_len 11 = 6 := rfl
  by_cases hf : cs_ft Bf ty p (zs_tx 11) = 6
  · rw [if_pos (hf.trans hz.symm)] at hw
    rw [hf, show decide (6 < zs_len 11) = false from rfl, show p + ((6 : Nat) : Int) = p + 6 from rfl] at ht
    refine Or.inr ⟨11, by decide, hw, ?_⟩
    rw [cs_c11 hl]
    exact cs_e11 ht
  · rw [if_neg (fun h => hf (h.trans hz))] at hw
    rw [show decide (cs_ft Bf ty p (zs_tx 11) < zs_len 11) = true from decide_eq_true (by omega)] at ht
    refine Or.inl ⟨by rw [hw], ?_⟩
    rw [cs_c11 hl, hw]
    exact cs_d11 ht
theorem cs_nof : ∀ j, j < 12 → zs_ch j 0 = 98 ∨ zs_ch j 0 = 101 ∨ zs_ch j 0 = 102 ∨ zs_ch j 0 = 105 ∨ zs_ch j 0 = 108 ∨ zs_ch j 0 = 112 ∨ zs_ch j 0 = 114 ∨ zs_ch j 0 = 115 ∨ zs_ch j 0 = 119 := by decide
theorem cs_cmd {K : Int} {P r : Int → Int} (hp : 0 ≤ p) : cs_cq Bf ty p K P r := by
  by_cases h98 : md_he Bf ty p = 98
  · exact cs_q4 hp h98
  by_cases h101 : md_he Bf ty p = 101
  · exact cs_q5 hp h101
  by_cases h102 : md_he Bf ty p = 102
  · by_cases h : md_he Bf ty (p + 1) = 114
    · exact cs_q2 hp h102 h
    · exact cs_q1 hp h102 h
  by_cases h105 : md_he Bf ty p = 105
  · exact cs_q6 hp h105
  by_cases h108 : md_he Bf ty p = 108
  · exact cs_q3 hp h108
  by_cases h112 : md_he Bf ty p = 112
  · by_cases h : md_he Bf ty (p + 1) = 114
    · exact cs_q9 hp h112 h
    · exact cs_q0 hp h112 h
  by_cases h114 : md_he Bf ty p = 114
  · exact cs_q8 hp h114
  by_cases h115 : md_he Bf ty p = 115
  · by_cases h : md_he Bf ty (p + 1) = 104
    · exact cs_q7 hp h115 h
    · exact cs_q10 hp h115 h
  by_cases h119 : md_he Bf ty p = 119
  · exact cs_q11 hp h119
  have hw := cs_wd_no (Bf := Bf) (ty := ty) (p := p) (fun j hj h => by
    rcases cs_nof j hj with e | e | e | e | e | e | e | e | e <;> rw [e] at h <;> have h2 := (cs_sg_he hp (by decide)).mp h <;> contradiction)
  refine Or.inl ⟨by rw [hw], ?_⟩
  rw [hw]
  unfold md_cmd
  dsimp only
  rw [if_neg h98, if_neg h101, if_neg h102, if_neg h105, if_neg h108, if_neg h112, if_neg h114, if_neg h115, if_neg h119]
  show (p + 1 - 1, true) = (p + ((0 : Nat) : Int), true)
  rw [show p + 1 - 1 = p + ((0 : Nat) : Int) by omega]
end SB
theorem md_pB_fr {Bf : Int → Int} {ty K : Int} {s : md_PS} {P : Int → Int} {j : Int} (hj : j < K ∨ K + 4 < j) : (md_pB Bf ty K s P).2 j = P j := by
  unfold md_pB
  (dsimp only; (repeat rw [jk_set_ne _ _ (by omega)]))
theorem md_pM_fr {Bf : Int → Int} {ty K x y : Int} {s : md_PS} {P : Int → Int} {j : Int} (hj : j < K ∨ K + 4 < j) : (md_pM Bf ty K x y s P).2 j = P j := by
  unfold md_pM
  (dsimp only; (repeat rw [jk_set_ne _ _ (by omega)]))
theorem md_pL_fr {Bf : Int → Int} {ty K : Int} {s : md_PS} {P : Int → Int} {j : Int} (hj : j < K ∨ K + 4 < j) : (md_pL Bf ty K s P).2 j = P j := by
  unfold md_pL
  (dsimp only; (repeat rw [jk_set_ne _ _ (by omega)]))
theorem md_pW_fr {Bf : Int → Int} {ty K : Int} {s : md_PS} {P : Int → Int} {j : Int} (hj : j < K ∨ K + 4 < j) : (md_pW Bf ty K s P).2 j = P j := by
  unfold md_pW
  (dsimp only; (repeat rw [jk_set_ne _ _ (by omega)]))
theorem md_pP_fr {Bf : Int → Int} {ty K : Int} {s : md_PS} {P : Int → Int} {j : Int} (hj : j < K ∨ K + 4 < j) : (md_pP Bf ty K s P).2 j = P j := by
  unfold md_pP
  split
  · (dsimp only; (repeat rw [jk_set_ne _ _ (by omega)]))
  · first | rfl | (dsimp only; (repeat rw [jk_set_ne _ _ (by omega)]))
theorem md_pF_fr {Bf : Int → Int} {ty K : Int} {s : md_PS} {P : Int → Int} {j : Int} (hj : j < K ∨ K + 4 < j) : (md_pF Bf ty K s P).2 j = P j := by
  unfold md_pF
  split
  · (dsimp only; (repeat rw [jk_set_ne _ _ (by omega)]))
  · first | rfl | (dsimp only; (repeat rw [jk_set_ne _ _ (by omega)]))
theorem md_pSt_fr {Bf : Int → Int} {ty K : Int} {s : md_PS} {P : Int → Int} {j : Int} (hj : j < K ∨ K + 4 < j) : (md_pSt Bf ty K s P).2 j = P j := by
  unfold md_pSt
  split
  · (dsimp only; (repeat rw [jk_set_ne _ _ (by omega)]))
  · first | rfl | (dsimp only; (repeat rw [jk_set_ne _ _ (by omega)]))
theorem md_cmd_fr {Bf : Int → Int} {ty K : Int} {s : md_PS} {P : Int → Int} {j : Int} (hj : j < K ∨ K + 4 < j) : (md_cmd Bf ty K s P).2 j = P j := by
  have e0 : jk_set P K (md_he Bf ty s.1) j = P j := jk_set_ne _ _ (by omega)
  unfold md_cmd
  dsimp only
  split
  · exact (md_pB_fr hj).trans e0
  split
  · exact (md_pM_fr hj).trans e0
  split
  · exact (md_pF_fr hj).trans e0
  split
  · exact (md_pM_fr hj).trans e0
  split
  · exact (md_pL_fr hj).trans e0
  split
  · exact (md_pP_fr hj).trans e0
  split
  · exact e0
  split
  · exact (md_pSt_fr hj).trans e0
  split
  · exact (md_pW_fr hj).trans e0
  exact e0
theorem cs_do {g P r : Int → Int} {K : Int} {k : Nat} (hk : k < 12) (hK : P K = cs_lt k) (ha : ∀ i : Nat, i < cs_na k → P (K + 1 + (i : Int)) = r (i : Int)) : md_do P K g = cl_do k g (r 0) (r 1) (r 2) (r 3) := by
  have a0 : 0 < cs_na k → P (K + 1) = r 0 := fun h => by have h := ha 0 h; rw [show K + 1 + ((0 : Nat) : Int) = K + 1 by omega] at h; exact h
  have a1 : 1 < cs_na k → P (K + 2) = r 1 := fun h => by have h := ha 1 h; rw [show K + 1 + ((1 : Nat) : Int) = K + 2 by omega] at h; exact h
  have a2 : 2 < cs_na k → P (K + 3) = r 2 := fun h => by have h := ha 2 h; rw [show K + 1 + ((2 : Nat) : Int) = K + 3 by omega] at h; exact h
  have a3 : 3 < cs_na k → P (K + 4) = r 3 := fun h => by have h := ha 3 h; rw [show K + 1 + ((3 : Nat) : Int) = K + 4 by omega] at h; exact h
  clear ha
  unfold md_do
  rw [hK]
  match k, hk with
  | 0, _ => rfl
  | 1, _ => rw [a0 (by decide), a1 (by decide)]; rfl
  | 2, _ => rw [a0 (by decide)]; rfl
  | 3, _ => rw [a0 (by decide), a1 (by decide), a2 (by decide), a3 (by decide)]; rfl
  | 4, _ => rw [a0 (by decide), a1 (by decide)]; rfl
  | 5, _ => rw [a0 (by decide)]; rfl
  | 6, _ => rw [a0 (by decide)]; rfl
  | 7, _ => rw [a0 (by decide)]; rfl
  | 8, _ => rfl
  | 9, _ => rw [a0 (by decide)]; rfl
  | 10, _ => rw [a0 (by decide), a1 (by decide), a2 (by decide)]; rfl
  | 11, _ => rw [a0 (by decide)]; rfl
  | k + 12, hk => exact absurd hk (by omega)
end S4
