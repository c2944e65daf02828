section CS1
/-- a Sharing at y over the Survey at s -/
def sh_at (t : jk_T) (ρ : jk_P) (y s : Nat) : Prop := (t y = some (.inr 8) ∧ t (y + 2) = some (.inl (.int, 16)) ∧ t (y + 4) = some (.inl (.int, 16))) ∧ (ρ y 0 = some s ∧ ρ y 1 = some (y + 2) ∧ ρ y 2 = some (y + 4)) ∧ cl_at t ρ s ∧ s + 44 < y
def cs_ahd (R : Int → Int) (o l : Int) : Bool := decide (R o > R l ∨ (R o = R l ∧ o < l))
def cs_pk (R Pk : Int → Int) (j : Int) : Prop := (∀ l, 0 ≤ l ∧ l < 16 → (Pk l = 0 ∨ Pk l = 1) ∧ (Pk l = 1 → 0 ≤ R l ∧ ∀ x, 0 ≤ x ∧ x < 16 → cs_ahd R x l = true → Pk x = 1)) ∧ jk_sum Pk 16 = j
theorem cm_sum_le {f f2 : Int → Int} : ∀ k : Nat, (∀ i, 0 ≤ i → i < (k : Int) → f i ≤ f2 i) → jk_sum f k ≤ jk_sum f2 k
  | 0, _ => Int.le_refl _
  | k + 1, h => by
    have h1 := cm_sum_le k (fun i h0 h1 => h i h0 (by omega))
    have h2 := h (k : Int) (by omega) (by omega)
    show jk_sum f k + f (k : Int) ≤ jk_sum f2 k + f2 (k : Int)
    omega
/-- the first greatest of what is left -/
theorem cs_step {R Pk R2 : Int → Int} {j m : Int} (h : cs_pk R Pk j) (hR2 : ∀ l, 0 ≤ l ∧ l < 16 → R2 l = if Pk l = 1 then -1 else R l) (hR : ∀ l, 0 ≤ l ∧ l < 16 → -1 ≤ R l) (hj : j < jk_sum (fun l => jB (decide (0 ≤ R l))) 16) (hm : 0 ≤ m ∧ m < 16) (hmx : ∀ x, 0 ≤ x ∧ x < 16 → R2 x ≤ R2 m ∧ (x < m → R2 x < R2 m)) : Pk m = 0 ∧ 0 ≤ R m ∧ cs_pk R (jk_set Pk m 1) (j + 1) := by
  obtain ⟨h1, h2⟩ := h
  have hex : ∃ x, (0 ≤ x ∧ x < 16) ∧ Pk x = 0 ∧ 0 ≤ R x := Classical.byContradiction (fun hn => by
    have : jk_sum (fun l => jB (decide (0 ≤ R l))) 16 ≤ jk_sum Pk 16 := cm_sum_le 16 (fun i h0 h9 => by
      have hi : 0 ≤ i ∧ i < 16 := ⟨h0, by omega⟩
      rcases (h1 i hi).1 with e | e
      · show jB (decide (0 ≤ R i)) ≤ Pk i
        have : ¬ 0 ≤ R i := fun q => hn ⟨i, hi, e, q⟩
        rw [decide_eq_false this, jB_f, e]; omega
      · show jB (decide (0 ≤ R i)) ≤ Pk i
        rw [e]; rcases jB_01 (decide (0 ≤ R i)) with q | q <;> omega)
    omega)
  obtain ⟨x, hx, hx0, hxR⟩ := hex
  have e1 := hR2 x hx
  rw [if_neg (by omega)] at e1
  have e2 := hR2 m hm
  have e3 := (hmx x hx).1
  have hm0 : Pk m = 0 := (h1 m hm).1.resolve_right (fun q => by rw [if_pos q] at e2; omega)
  rw [if_neg (by omega)] at e2
  refine ⟨hm0, by omega, fun l hl => ?_, ?_⟩
  · by_cases e : l = m
    · subst e
      rw [jk_set_at]
      refine ⟨Or.inr rfl, fun _ => ⟨by omega, fun y hy ha => ?_⟩⟩
      have ha' := of_decide_eq_true ha
      by_cases ey : y = l
      · rw [ey, jk_set_at]
      · rw [jk_set_ne _ _ ey]
        rcases (h1 y hy).1 with q | q
        · exfalso
          have e5 := hR2 y hy
          rw [if_neg (by omega)] at e5
          have e6 := hmx y hy
          omega
        · exact q
    · rw [jk_set_ne _ _ e]
      refine ⟨(h1 l hl).1, fun q => ⟨((h1 l hl).2 q).1, fun y hy ha => ?_⟩⟩
      have := ((h1 l hl).2 q).2 y hy ha
      unfold jk_set; split; rfl; exact this
  · rw [jk_sum_set, if_pos ⟨hm.1, by omega⟩, hm0, h2]; omega
theorem cs_fin {R Pk : Int → Int} {M : Int} (h : cs_pk R Pk M) {l : Int} (hl : 0 ≤ l ∧ l < 16) : Pk l = jB (decide (0 ≤ R l ∧ jk_sum (fun x => jB (cs_ahd R x l)) 16 < M)) := by
  obtain ⟨h1, h2⟩ := h
  rcases (h1 l hl).1 with e | e
  · rw [e]
    by_cases hR : 0 ≤ R l
    · have : jk_sum Pk 16 ≤ jk_sum (fun x => jB (cs_ahd R x l)) 16 := cm_sum_le 16 (fun i h0 h9 => by
        have hi : 0 ≤ i ∧ i < 16 := ⟨h0, by omega⟩
        rcases (h1 i hi).1 with q | q
        · rw [q]; show 0 ≤ jB _; rcases jB_01 (cs_ahd R i l) with w | w <;> omega
        · have hil : i ≠ l := fun z => by rw [z, e] at q; exact absurd q (by decide)
          have ha : cs_ahd R i l = true := by
            cases ha : cs_ahd R i l with
            | true => rfl
            | false =>
              exfalso
              have ha' := of_decide_eq_false ha
              have hb : cs_ahd R l i = true := decide_eq_true (by omega)
              have := ((h1 i hi).2 q).2 l hl hb
              omega
          show Pk i ≤ jB (cs_ahd R i l)
          rw [ha, q, jB_t]; omega)
      rw [decide_eq_false (fun q => by omega)]; rfl
    · rw [decide_eq_false (fun q => hR q.1)]; rfl
  · obtain ⟨hR, hcl⟩ := (h1 l hl).2 e
    have : jk_sum (fun x => jB (cs_ahd R x l)) 16 ≤ jk_sum (jk_set Pk l 0) 16 := cm_sum_le 16 (fun i h0 h9 => by
      have hi : 0 ≤ i ∧ i < 16 := ⟨h0, by omega⟩
      show jB (cs_ahd R i l) ≤ jk_set Pk l 0 i
      by_cases q : i = l
      · rw [q, jk_set_at]
        have : cs_ahd R l l = false := decide_eq_false (by omega)
        rw [this, jB_f]; omega
      · rw [jk_set_ne _ _ q]
        cases ha : cs_ahd R i l with
        | true => rw [hcl i hi ha, jB_t]; omega
        | false => rw [jB_f]; rcases (h1 i hi).1 with w | w <;> omega)
    rw [jk_sum_set, if_pos ⟨hl.1, by omega⟩, e] at this
    rw [e, decide_eq_true ⟨hR, by omega⟩]; rfl
def sh_gQ (y : Nat) (PT R : Int → Int) (M : Int) (σ : jk_I) (n : Nat) (t : jk_T) (ρ : jk_P) : jk_Q := fun v' n' t' σ' ρ' => v' = none ∧ n' = n ∧ t' = t ∧ ρ' = ρ ∧ (∀ a, a ≠ y + 2 → a ≠ y + 4 → σ' a = σ a) ∧ ∀ l, 0 ≤ l ∧ l < 16 → σ' (y + 2) l = PT l + jB (decide (0 ≤ R l ∧ jk_sum (fun x => jB (cs_ahd R x l)) 16 < M))
theorem c_X8_giveOut {G : jk_G} {n : Nat} {t : jk_T} {σ : jk_I} {ρ : jk_P} {y s : Nat} {PT R : Int → Int} {M : Int} (hsh : sh_at t ρ y s) (hPT : σ (y + 2) = PT) (hRM : σ (y + 4) = R) (hR : ∀ l, 0 ≤ l ∧ l < 16 → -1 ≤ R l ∧ R l < 1000000000) (hM : 0 ≤ M ∧ M ≤ 16) (hCN : M ≤ jk_sum (fun l => jB (decide (0 ≤ R l))) 16) : jk_K G yX8_giveOut mX8_giveOut 0 0 [.ref y, jI M] n t σ ρ (sh_gQ y PT R M σ n t ρ) jk_no := by
  obtain ⟨⟨hy1, hy2, hy3⟩, ⟨hq1, hq2, hq3⟩, hs, hsy⟩ := id hsh
  refine jk_entryB (ls := [some (.ref y), some (jI M), none, none, none]) jm_X8_giveOut.1 rfl rfl rfl ?_
  refine jk_iconst (q := 1) dX8_giveOut_0 rfl ?_
  refine jk_istore2 (q := 2) dX8_giveOut_1 rfl rfl rfl ?_
  have L2 : ∀ k2 : Nat, k2 ≤ M.toNat → ∀ (σ1 : jk_I) (P2 R2 Pk : Int → Int), (h1 : σ1 = jk_row (jk_row σ (y + 2) P2) (y + 4) R2) → (hP2 : ∀ l, 0 ≤ l ∧ l < 16 → P2 l = PT l + Pk l) → (hR2 : ∀ l, 0 ≤ l ∧ l < 16 → R2 l = if Pk l = 1 then -1 else R l) → (hpk : cs_pk R Pk (k2 : Int)) → jk_J G mX8_giveOut 2 [some (.ref y), some (jI M), some (jI (k2 : Int)), none, none] [] n t σ1 ρ 0 0 (sh_gQ y PT R M σ n t ρ) jk_no := by
    refine jk_loop _ (fun k2 hk2 ih2 => ?_)
    intro σ1 P2 R2 Pk h1 hP2 hR2 hpk
    have hP1 : σ1 (y + 2) = P2 := by rw [h1, jk_row_ne _ _ (by omega), jk_row_same]
    have hR1 : σ1 (y + 4) = R2 := by rw [h1, jk_row_same]
    have hRb : ∀ l, 0 ≤ l ∧ l < 16 → -1 ≤ R2 l ∧ R2 l < 1000000000 := fun l hl => by have := hR l hl; rw [hR2 l hl]; split <;> omega
    refine jk_iload_n (q := 3) dX8_giveOut_2 rfl rfl ?_
    refine jk_iload_n (q := 4) dX8_giveOut_3 rfl rfl ?_
    refine jk_icmp_ge (q := 73) (q2 := 7) dX8_giveOut_4 rfl rfl (by first | assumption | decide | omega | exact jB_01 _ | exact jB_in _ | exact ⟨by omega, by omega⟩) (by first | assumption | decide | omega | exact jB_01 _ | exact jB_in _ | exact ⟨by omega, by omega⟩) (fun z1 => ?_) (fun z1 => ?_)
    · exact jk_ret rfl dX8_giveOut_73 (by exact ⟨rfl, rfl, rfl, rfl, fun a a1 a2 => by rw [h1, jk_row_ne _ _ a2, jk_row_ne _ _ a1], fun l hl => by rw [hP1, hP2 l hl]; have e9 : (k2 : Int) = M := (by omega); rw [e9] at hpk; rw [cs_fin hpk hl]⟩)
    · refine jk_iload_n (q := 8) dX8_giveOut_7 rfl rfl ?_
      refine jk_bipush (q := 10) (y := 16) dX8_giveOut_8 rfl (by decide) ?_
      refine jk_icmp_ge (q := 73) (q2 := 13) dX8_giveOut_10 rfl rfl (by first | assumption | decide | omega | exact jB_01 _ | exact jB_in _ | exact ⟨by omega, by omega⟩) (by first | assumption | decide | omega | exact jB_01 _ | exact jB_in _ | exact ⟨by omega, by omega⟩) (fun z2 => ?_) (fun z2 => ?_)
      · exact jk_ret rfl dX8_giveOut_73 (by exact ⟨rfl, rfl, rfl, rfl, fun a a1 a2 => by rw [h1, jk_row_ne _ _ a2, jk_row_ne _ _ a1], fun l hl => by rw [hP1, hP2 l hl]; have e9 : (k2 : Int) = M := (by omega); rw [e9] at hpk; rw [cs_fin hpk hl]⟩)
      · refine jk_iconst (q := 14) dX8_giveOut_13 rfl ?_
        refine jk_istore3 (q := 15) dX8_giveOut_14 rfl rfl rfl ?_
        refine jk_iconst (q := 16) dX8_giveOut_15 rfl ?_
        refine jk_istore4 (q := 18) dX8_giveOut_16 rfl rfl rfl ?_
        have L18 : ∀ k18 : Nat, k18 ≤ 15 → ∀ (mm : Int), (hm0 : 0 ≤ mm ∧ mm < (k18 : Int) + 1) → (hmx : ∀ x, 0 ≤ x ∧ x < (k18 : Int) + 1 → R2 x ≤ R2 mm ∧ (x < mm → R2 x < R2 mm)) → jk_J G mX8_giveOut 18 [some (.ref y), some (jI M), some (jI (k2 : Int)), some (jI mm), some (jI ((k18 : Int) + 1))] [] n t σ1 ρ 0 0 (sh_gQ y PT R M σ n t ρ) jk_no := by
          refine jk_loop _ (fun k18 hk18 ih18 => ?_)
          intro mm hm0 hmx
          have hrm := hRb mm ⟨hm0.1, by omega⟩
          refine jk_iload (q := 20) dX8_giveOut_18 rfl rfl ?_
          refine jk_bipush (q := 22) (y := 16) dX8_giveOut_20 rfl (by decide) ?_
          refine jk_icmp_ge (q := 50) (q2 := 25) dX8_giveOut_22 rfl rfl (by first | assumption | decide | omega | exact jB_01 _ | exact jB_in _ | exact ⟨by omega, by omega⟩) (by first | assumption | decide | omega | exact jB_01 _ | exact jB_in _ | exact ⟨by omega, by omega⟩) (fun z3 => ?_) (fun z3 => ?_)
          · refine jk_aload_n (q := 51) dX8_giveOut_50 rfl rfl ?_
            refine jk_getA (q := 54) (k := 8) 1 1 rfl (by first | exact hy1 | exact hy2 | exact hy3 | exact hs.1 | exact hs.2.1 _ _ rfl | assumption) (by first | exact hq1 | exact hq2 | exact hq3 | exact hs.2.2.1 _ _ rfl | assumption) rfl rfl jw_245 dX8_giveOut_51 rfl ?_
            refine jk_iload_n (q := 55) dX8_giveOut_54 rfl rfl ?_
            refine jk_dup2 (q := 56) dX8_giveOut_55 rfl rfl rfl ?_
            refine jk_ialdR (q := 57) (by first | exact hy1 | exact hy2 | exact hy3 | exact hs.1 | exact hs.2.1 _ _ rfl | assumption) (by first | exact jk_row_same _ _ _ | ((repeat rewrite [jk_row_ne _ _ (by omega)]); first | exact jk_row_same _ _ _ | exact hP1 | exact hR1 | rfl)) (by first | assumption | decide | omega | exact jB_01 _ | exact jB_in _ | exact ⟨by omega, by omega⟩) dX8_giveOut_56 rfl ?_
            refine jk_iconst (q := 58) dX8_giveOut_57 rfl ?_
            refine jk_iadd (q := 59) dX8_giveOut_58 rfl ?_
            refine jk_iastR (q := 60) (by first | exact hy1 | exact hy2 | exact hy3 | exact hs.1 | exact hs.2.1 _ _ rfl | assumption) (by first | exact jk_row_same _ _ _ | ((repeat rewrite [jk_row_ne _ _ (by omega)]); first | exact jk_row_same _ _ _ | exact hP1 | exact hR1 | rfl)) (by first | assumption | decide | omega | exact jB_01 _ | exact jB_in _ | exact ⟨by omega, by omega⟩) dX8_giveOut_59 rfl ?_
            refine jk_aload_n (q := 61) dX8_giveOut_60 rfl rfl ?_
            refine jk_getA (q := 64) (k := 8) 2 2 rfl (by first | exact hy1 | exact hy2 | exact hy3 | exact hs.1 | exact hs.2.1 _ _ rfl | assumption) (by first | exact hq1 | exact hq2 | exact hq3 | exact hs.2.2.1 _ _ rfl | assumption) rfl rfl jw_247 dX8_giveOut_61 rfl ?_
            refine jk_iload_n (q := 65) dX8_giveOut_64 rfl rfl ?_
            refine jk_iconst (q := 66) dX8_giveOut_65 rfl ?_
            refine jk_iastR (q := 67) (by first | exact hy1 | exact hy2 | exact hy3 | exact hs.1 | exact hs.2.1 _ _ rfl | assumption) (by first | exact jk_row_same _ _ _ | ((repeat rewrite [jk_row_ne _ _ (by omega)]); first | exact jk_row_same _ _ _ | exact hP1 | exact hR1 | rfl)) (by first | assumption | decide | omega | exact jB_01 _ | exact jB_in _ | exact ⟨by omega, by omega⟩) dX8_giveOut_66 rfl ?_
            refine jk_iinc2 (q := 70) dX8_giveOut_67 rfl rfl rfl ?_
            refine jk_goto (q := 2) dX8_giveOut_70 rfl ?_
            obtain ⟨w1, w2, w3⟩ := cs_step hpk hR2 (fun l hl => (hR l hl).1) (by omega) ⟨hm0.1, by omega⟩ (fun x hx => hmx x ⟨hx.1, by omega⟩)
            exact jk_convw (ih2 (by omega) _ (jk_set P2 mm (P2 mm + 1)) (jk_set R2 mm (-1)) (jk_set Pk mm 1) (by rw [h1, jk_rr _ _ _ _ _ (show y + 2 ≠ y + 4 by omega)]) (fun l hl => by by_cases e : l = mm; (subst e; rw [jk_set_at, jk_set_at, hP2 l hl, w1]; omega); rw [jk_set_ne _ _ e, jk_set_ne _ _ e]; exact hP2 l hl) (fun l hl => by by_cases e : l = mm; (subst e; rw [jk_set_at, jk_set_at, if_pos rfl]); rw [jk_set_ne _ _ e, jk_set_ne _ _ e]; exact hR2 l hl) w3) (jk_wkS rfl (jk_wkS rfl (jk_wkS rfl (jk_wkN (jk_wkN jk_wk0)))))
          · have hrk := hRb ((k18 : Int) + 1) ⟨by omega, by omega⟩
            refine jk_aload_n (q := 26) dX8_giveOut_25 rfl rfl ?_
            refine jk_getA (q := 29) (k := 8) 2 2 rfl (by first | exact hy1 | exact hy2 | exact hy3 | exact hs.1 | exact hs.2.1 _ _ rfl | assumption) (by first | exact hq1 | exact hq2 | exact hq3 | exact hs.2.2.1 _ _ rfl | assumption) rfl rfl jw_247 dX8_giveOut_26 rfl ?_
            refine jk_iload (q := 31) dX8_giveOut_29 rfl rfl ?_
            refine jk_ialdR (q := 32) (by first | exact hy1 | exact hy2 | exact hy3 | exact hs.1 | exact hs.2.1 _ _ rfl | assumption) (by first | exact jk_row_same _ _ _ | ((repeat rewrite [jk_row_ne _ _ (by omega)]); first | exact jk_row_same _ _ _ | exact hP1 | exact hR1 | rfl)) (by first | assumption | decide | omega | exact jB_01 _ | exact jB_in _ | exact ⟨by omega, by omega⟩) dX8_giveOut_31 rfl ?_
            refine jk_aload_n (q := 33) dX8_giveOut_32 rfl rfl ?_
            refine jk_getA (q := 36) (k := 8) 2 2 rfl (by first | exact hy1 | exact hy2 | exact hy3 | exact hs.1 | exact hs.2.1 _ _ rfl | assumption) (by first | exact hq1 | exact hq2 | exact hq3 | exact hs.2.2.1 _ _ rfl | assumption) rfl rfl jw_247 dX8_giveOut_33 rfl ?_
            refine jk_iload_n (q := 37) dX8_giveOut_36 rfl rfl ?_
            refine jk_ialdR (q := 38) (by first | exact hy1 | exact hy2 | exact hy3 | exact hs.1 | exact hs.2.1 _ _ rfl | assumption) (by first | exact jk_row_same _ _ _ | ((repeat rewrite [jk_row_ne _ _ (by omega)]); first | exact jk_row_same _ _ _ | exact hP1 | exact hR1 | rfl)) (by first | assumption | decide | omega | exact jB_01 _ | exact jB_in _ | exact ⟨by omega, by omega⟩) dX8_giveOut_37 rfl ?_
            refine jk_icmp_le (q := 44) (q2 := 41) dX8_giveOut_38 rfl rfl (by first | assumption | decide | omega | exact jB_01 _ | exact jB_in _ | exact ⟨by omega, by omega⟩) (by first | assumption | decide | omega | exact jB_01 _ | exact jB_in _ | exact ⟨by omega, by omega⟩) (fun z4 => ?_) (fun z4 => ?_)
            · refine jk_iinc4 (q := 47) dX8_giveOut_44 rfl rfl rfl ?_
              refine jk_goto (q := 18) dX8_giveOut_47 rfl ?_
              exact jk_convw (ih18 (by omega) mm ⟨by omega, by omega⟩ (fun x hx => by by_cases e : x = (k18 : Int) + 1; (rw [e]; exact ⟨by omega, fun q => absurd q (by omega)⟩); exact hmx x ⟨hx.1, by omega⟩)) (jk_wkS rfl (jk_wkS rfl (jk_wkS rfl (jk_wkS rfl (jk_wkS (jk_li (by omega)) jk_wk0)))))
            · refine jk_iload (q := 43) dX8_giveOut_41 rfl rfl ?_
              refine jk_istore3 (q := 44) dX8_giveOut_43 rfl rfl rfl ?_
              refine jk_iinc4 (q := 47) dX8_giveOut_44 rfl rfl rfl ?_
              refine jk_goto (q := 18) dX8_giveOut_47 rfl ?_
              exact jk_convw (ih18 (by omega) ((k18 : Int) + 1) ⟨by omega, by omega⟩ (fun x hx => by by_cases e : x = (k18 : Int) + 1; (rw [e]; exact ⟨Int.le_refl _, fun q => absurd q (by omega)⟩); (have := hmx x ⟨hx.1, by omega⟩; exact ⟨by omega, fun _ => by omega⟩))) (jk_wkS rfl (jk_wkS rfl (jk_wkS rfl (jk_wkS rfl (jk_wkS (jk_li (by omega)) jk_wk0)))))
        exact jk_convw (L18 0 (Nat.zero_le _) 0 ⟨by omega, by omega⟩ (fun x hx => ⟨by rw [show x = 0 by omega]; omega, fun q => absurd q (by omega)⟩)) (jk_wkS rfl (jk_wkS rfl (jk_wkS rfl (jk_wkS rfl (jk_wkS rfl jk_wk0)))))
  exact jk_convw (L2 0 (Nat.zero_le _) _ PT R (fun _ => 0) (jk_rs2 σ hPT hRM).symm (fun l hl => by omega) (fun l hl => (if_neg (show ¬ (0 : Int) = 1 by decide)).symm) ⟨fun l hl => ⟨Or.inl rfl, fun q => absurd q (show ¬ (0 : Int) = 1 by decide)⟩, rfl⟩) (jk_wkS rfl (jk_wkS rfl (jk_wkS rfl (jk_wkN (jk_wkN jk_wk0)))))
end CS1
