section S6
theorem md_cf_stop {Bf : Int → Int} {ty : Int} {P0 : Int → Int} {k : Nat} (h1 : ∀ i, i < k → (md_sn Bf ty P0 i).2 = true) (h2 : (md_sn Bf ty P0 k).2 = false) : ∀ d j f : Nat, j + d = k → d ≤ f → md_cf Bf ty P0 f j = k
  | 0, j, 0, h, _ => h
  | 0, j, f + 1, h, _ => by
    have : j = k := h
    subst this
    unfold md_cf; rw [if_pos h2]
  | d + 1, j, 0, _, h => absurd h (by omega)
  | d + 1, j, f + 1, h, hf => by
    unfold md_cf
    rw [if_neg (by rw [h1 j (by omega)]; decide)]
    exact md_cf_stop h1 h2 d (j + 1) f (by omega) (by omega)
theorem md_cn_stop {Bf : Int → Int} {ty : Int} {P0 : Int → Int} {k : Nat} (hk : k ≤ 40) (h1 : ∀ i, i < k → (md_sn Bf ty P0 i).2 = true) (h2 : (md_sn Bf ty P0 k).2 = false) : md_cn Bf ty P0 = k ∧ md_x Bf ty P0 = (md_sn Bf ty P0 k).1 := by
  have e : md_cn Bf ty P0 = k := md_cf_stop h1 h2 k 0 40 (by omega) hk
  exact ⟨e, by unfold md_x; rw [e]⟩
/-- one command, as md_sn reads it -/
def md_c1 (Bf : Int → Int) (ty : Int) (P0 : Int → Int) (k : Nat) : md_TR := md_cmd Bf ty (5 * (k : Int)) (md_sn Bf ty P0 k).1.1 (md_sn Bf ty P0 k).1.2
theorem md_sn_S (Bf : Int → Int) (ty : Int) (P0 : Int → Int) (k : Nat) : md_sn Bf ty P0 (k + 1) = ((((md_c1 Bf ty P0 k).1.1 + jB (md_mo Bf ty (md_c1 Bf ty P0 k)), (md_c1 Bf ty P0 k).1.2), (md_c1 Bf ty P0 k).2), md_mo Bf ty (md_c1 Bf ty P0 k)) := rfl
/-- what reading has done after k commands -/
def cs_iv (Bf : Int → Int) (ty : Int) (P0 : Int → Int) (q k : Nat) (σ : jk_I) (ρ : jk_P) (σ1 : jk_I) (ρ1 : jk_P) : Prop :=
  (∀ i, i < k → (md_sn Bf ty P0 i).2 = true) ∧ (md_sn Bf ty P0 k).1.1.2 = false ∧ σ1 q 2 = (md_sn Bf ty P0 k).1.1.1 ∧ σ1 q 3 = (k : Int) ∧ md_sok ty (md_sn Bf ty P0 k).1.1.1 ∧ ((md_sn Bf ty P0 k).2 = true → 6 * (k : Int) ≤ (md_sn Bf ty P0 k).1.1.1) ∧
  (∃ kd : Nat → Nat, ∀ i, i < k → kd i < 12 ∧ ρ1 (q + 4) (i : Int) = some (kd i) ∧ (md_sn Bf ty P0 k).1.2 (5 * (i : Int)) = cs_lt (kd i) ∧ ∀ m : Nat, m < cs_na (kd i) → (md_sn Bf ty P0 k).1.2 (5 * (i : Int) + 1 + (m : Int)) = σ1 (q + (8 + 2 * i)) (m : Int)) ∧
  (∀ i, i < 10 → cs_bd (σ1 (q + (8 + 2 * i)))) ∧ (∀ a, a ≠ q → (∀ i, i < 10 → a ≠ q + (8 + 2 * i)) → σ1 a = σ a) ∧ (∀ j, j ≠ 2 → j ≠ 3 → σ1 q j = σ q j) ∧ ∀ a, a ≠ q + 4 → ρ1 a = ρ a
theorem cs_na4 : ∀ k, k < 12 → cs_na k ≤ 4 := by decide
theorem cs_iv_S {Bf : Int → Int} {ty : Int} {P0 : Int → Int} {q k n : Nat} {t : jk_T} {σ σ1 σ2 : jk_I} {ρ ρ1 ρ2 : jk_P} {v : Option Value} (hB : ∀ j, 0 ≤ j ∧ j < 60 → 0 ≤ Bf j ∧ Bf j < 65536) (hty : 0 ≤ ty ∧ ty ≤ 60) (hk : k < 10) (hi : cs_iv Bf ty P0 q k σ ρ σ1 ρ1) (hmo : (md_sn Bf ty P0 k).2 = true)
    (hc : cs_cQ Bf ty (md_sn Bf ty P0 k).1.1.1 (5 * (k : Int)) (md_sn Bf ty P0 k).1.2 q (q + (8 + 2 * k)) k n t σ1 ρ1 v n t σ2 ρ2) (hf : (md_c1 Bf ty P0 k).1.2 = false) :
    cs_iv Bf ty P0 q (k + 1) σ ρ (jk_row σ2 q (jk_set (σ2 q) 2 ((md_c1 Bf ty P0 k).1.1 + jB (md_mo Bf ty (md_c1 Bf ty P0 k))))) ρ2 := by
  obtain ⟨v1, v2, v3, v4, v5, v6, ⟨kd, v7⟩, v8, v9, v10, v11⟩ := hi
  obtain ⟨-, -, -, u4, u5, u6, u7, u8, u9, u10⟩ := hc
  have e1 : ((md_sn Bf ty P0 k).1.1.1, false) = (md_sn Bf ty P0 k).1.1 := Prod.ext rfl v2.symm
  rw [e1] at u4 u5
  obtain ⟨u51, u52, kn, u53, u54, u55, u56⟩ := u5 hf
  have hok := md_cmd_ok hB hty (5 * (k : Int)) (s := (md_sn Bf ty P0 k).1.1) (md_sn Bf ty P0 k).1.2 v5
  have hge := hok.1
  have hle := hok.2
  have hmo2 : md_sok ty ((md_c1 Bf ty P0 k).1.1 + jB (md_mo Bf ty (md_c1 Bf ty P0 k))) ∧ (md_mo Bf ty (md_c1 Bf ty P0 k) = true → 1 ≤ jB (md_mo Bf ty (md_c1 Bf ty P0 k))) := by
    cases h : md_mo Bf ty (md_c1 Bf ty P0 k)
    · rw [jB_f, Int.add_zero]; exact ⟨hok, fun h => absurd h (by decide)⟩
    · refine ⟨?_, fun _ => Int.le_refl _⟩
      rw [jB_t]
      unfold md_mo md_he at h
      by_cases h3 : (md_c1 Bf ty P0 k).1.1 < ty
      · have hge2 : 0 ≤ (md_c1 Bf ty P0 k).1.1 := hge
        exact ⟨by omega, by omega⟩
      · rw [if_neg h3] at h; simp at h
  have hfr : ∀ j : Int, j < 5 * (k : Int) → (md_c1 Bf ty P0 k).2 j = (md_sn Bf ty P0 k).1.2 j := fun j hj => md_cmd_fr (Or.inl hj)
  refine ⟨fun i hi => ?_, hf, ?_, ?_, hmo2.1, fun h => ?_, ⟨fun i => if i = k then kn else kd i, fun i hi => ?_⟩, fun i hi => ?_, fun a h1 h2 => ?_, fun j h1 h2 => ?_, fun a h1 => (u9 a h1).trans (v11 a h1)⟩
  · by_cases e : i = k
    · rw [e]; exact hmo
    · exact v1 i (by omega)
  · rw [jk_row_same, jk_set_at]; rfl
  · rw [jk_row_same, jk_set_ne _ _ (by decide), u52]; omega
  · have h6 := v6 hmo
    have h7 := hmo2.2 h
    show 6 * ((k + 1 : Nat) : Int) ≤ (md_c1 Bf ty P0 k).1.1 + jB (md_mo Bf ty (md_c1 Bf ty P0 k))
    have h8 : (md_sn Bf ty P0 k).1.1.1 + 5 ≤ (md_c1 Bf ty P0 k).1.1 := u51
    omega
  · by_cases e : i = k
    · subst e
      dsimp only
      rw [if_pos rfl]
      refine ⟨u53, u54, u55, fun m hm => ?_⟩
      rw [jk_row_ne _ _ (by omega)]
      exact u56 m hm
    · dsimp only
      rw [if_neg e]
      obtain ⟨w1, w2, w3, w4⟩ := v7 i (by omega)
      have h4 := cs_na4 _ w1
      refine ⟨w1, by rw [u10 _ (by omega)]; exact w2, (hfr _ (by omega)).trans w3, fun m hm => ?_⟩
      rw [jk_row_ne _ _ (by omega), u7 _ (by omega) (by omega)]
      exact (hfr _ (by omega)).trans (w4 m hm)
  · rw [jk_row_ne _ _ (by omega)]
    by_cases e : i = k
    · subst e; exact u6
    · rw [u7 _ (by omega) (by omega)]; exact v8 i hi
  · rw [jk_row_ne _ _ h1, u7 a h1 (h2 k hk)]
    exact v9 a h1 h2
  · rw [jk_row_same, jk_set_ne _ _ h1, u8 j h1 h2]
    exact v10 j h1 h2
/-- what read answers and leaves -/
def cs_rdQ (Bf : Int → Int) (ty : Int) (P0 : Int → Int) (q n : Nat) (t : jk_T) (σ : jk_I) (ρ : jk_P) : jk_Q := fun v' n' t' σ' ρ' =>
  v' = some (jI (jB (!md_w2 Bf ty P0))) ∧ n' = n ∧ t' = t ∧ σ' q 2 = (md_x Bf ty P0).1.1 ∧
  (md_w2 Bf ty P0 = false → md_cn Bf ty P0 ≤ 10 ∧ σ' q 3 = (md_cn Bf ty P0 : Nat) ∧ ∃ kd : Nat → Nat, ∀ i, i < md_cn Bf ty P0 → kd i < 12 ∧ ρ' (q + 4) (i : Int) = some (kd i) ∧ ∀ g, md_do (md_x Bf ty P0).2 (5 * (i : Int)) g = cl_do (kd i) g (σ' (q + (8 + 2 * i)) 0) (σ' (q + (8 + 2 * i)) 1) (σ' (q + (8 + 2 * i)) 2) (σ' (q + (8 + 2 * i)) 3)) ∧
  (∀ i, i < 10 → cs_bd (σ' (q + (8 + 2 * i)))) ∧ (∀ a, a ≠ q → (∀ i, i < 10 → a ≠ q + (8 + 2 * i)) → σ' a = σ a) ∧ (∀ j, j ≠ 2 → j ≠ 3 → σ' q j = σ q j) ∧ ∀ a, a ≠ q + 4 → ρ' a = ρ a
theorem cs_rd_x {Bf : Int → Int} {ty : Int} {P0 : Int → Int} {q k n : Nat} {t : jk_T} {σ σ1 σ2 : jk_I} {ρ ρ1 ρ2 : jk_P} {v : Option Value} (hk : k < 10) (hi : cs_iv Bf ty P0 q k σ ρ σ1 ρ1) (hmo : (md_sn Bf ty P0 k).2 = true)
    (hc : cs_cQ Bf ty (md_sn Bf ty P0 k).1.1.1 (5 * (k : Int)) (md_sn Bf ty P0 k).1.2 q (q + (8 + 2 * k)) k n t σ1 ρ1 v n t σ2 ρ2) (hf : (md_c1 Bf ty P0 k).1.2 = true) : cs_rdQ Bf ty P0 q n t σ ρ (some (jI 0)) n t σ2 ρ2 := by
  obtain ⟨v1, v2, v3, v4, v5, v6, -, v8, v9, v10, v11⟩ := hi
  obtain ⟨-, -, -, u4, -, u6, u7, u8, u9, u10⟩ := hc
  have e1 : ((md_sn Bf ty P0 k).1.1.1, false) = (md_sn Bf ty P0 k).1.1 := Prod.ext rfl v2.symm
  rw [e1] at u4
  have hm : md_mo Bf ty (md_c1 Bf ty P0 k) = false := by unfold md_mo; rw [hf]; rfl
  obtain ⟨c1, c2⟩ := md_cn_stop (k := k + 1) (by omega) (fun i hi => by
    by_cases e : i = k
    · rw [e]; exact hmo
    · exact v1 i (by omega)) (by rw [md_sn_S]; exact hm)
  have hx : (md_x Bf ty P0).1 = ((md_c1 Bf ty P0 k).1.1, true) := by rw [c2, md_sn_S, hm, jB_f, Int.add_zero, hf]
  have hw : md_w2 Bf ty P0 = true := by unfold md_w2; rw [hx]; rfl
  refine ⟨by rw [hw]; rfl, rfl, rfl, by rw [hx]; exact u4, fun h => absurd (hw.symm.trans h) (by decide), fun i hi => ?_, fun a h1 h2 => by rw [u7 a h1 (h2 k hk)]; exact v9 a h1 h2, fun j h1 h2 => by rw [u8 j h1 h2]; exact v10 j h1 h2, fun a h1 => (u9 a h1).trans (v11 a h1)⟩
  by_cases e : i = k
  · subst e; exact u6
  · rw [u7 _ (by omega) (by omega)]; exact v8 i hi
theorem cs_rd_e {Bf : Int → Int} {ty : Int} {P0 : Int → Int} {q k n : Nat} {t : jk_T} {σ σ1 : jk_I} {ρ ρ1 : jk_P} {b : Bool} (hk : k ≤ 10) (hty : 0 ≤ ty ∧ ty ≤ 60) (hi : cs_iv Bf ty P0 q k σ ρ σ1 ρ1) (hmo : (md_sn Bf ty P0 k).2 = false) (hb : b = decide (σ1 q 2 = ty)) : cs_rdQ Bf ty P0 q n t σ ρ (some (jI (jB b))) n t σ1 ρ1 := by
  obtain ⟨v1, v2, v3, v4, v5, v6, ⟨kd, v7⟩, v8, v9, v10, v11⟩ := hi
  obtain ⟨c1, c2⟩ := md_cn_stop (k := k) (by omega) v1 hmo
  have hle := v5.2
  have hw : md_w2 Bf ty P0 = !b := by
    unfold md_w2; rw [c2, v2, hb, v3, Bool.false_or]
    by_cases h : (md_sn Bf ty P0 k).1.1.1 = ty
    · rw [decide_eq_true h, decide_eq_false (by omega)]; rfl
    · rw [decide_eq_false h, decide_eq_true (by omega)]; rfl
  refine ⟨by rw [hw, Bool.not_not], rfl, rfl, by rw [c2]; exact v3, fun h => ⟨by omega, by rw [c1]; exact v4, kd, fun i hi => ?_⟩, v8, v9, v10, v11⟩
  rw [c1] at hi
  obtain ⟨w1, w2, w3, w4⟩ := v7 i hi
  refine ⟨w1, w2, fun g => ?_⟩
  rw [c2]
  exact cs_do w1 w3 w4
theorem cs_rd_10 {Bf : Int → Int} {ty : Int} {P0 : Int → Int} {q n : Nat} {t : jk_T} {σ σ1 : jk_I} {ρ ρ1 : jk_P} (hty : 0 ≤ ty ∧ ty ≤ 60) (hi : cs_iv Bf ty P0 q 10 σ ρ σ1 ρ1) (hmo : (md_sn Bf ty P0 10).2 = true) : cs_rdQ Bf ty P0 q n t σ ρ (some (jI 0)) n t σ1 ρ1 := by
  obtain ⟨v1, v2, v3, v4, v5, v6, -, v8, v9, v10, v11⟩ := hi
  have h6 := v6 hmo
  have hp : (md_sn Bf ty P0 10).1.1.1 = ty := by have := v5.2; omega
  have hc1 : (md_c1 Bf ty P0 10).1 = (ty, true) := by
    have hh : md_he Bf ty ty = -1 := if_neg (by omega)
    unfold md_c1 md_cmd
    rw [hp, hh]
    show (ty + 1 - 1, true) = (ty, true)
    rw [show ty + 1 - 1 = ty by omega]
  have hm : md_mo Bf ty (md_c1 Bf ty P0 10) = false := by unfold md_mo; rw [hc1]; rfl
  obtain ⟨c1, c2⟩ := md_cn_stop (k := 11) (by omega) (fun i hi => by
    by_cases e : i = 10
    · rw [e]; exact hmo
    · exact v1 i (by omega)) (by rw [md_sn_S]; exact hm)
  have hx : (md_x Bf ty P0).1 = (ty, true) := by rw [c2, md_sn_S, hm, jB_f, Int.add_zero, hc1]
  have hw : md_w2 Bf ty P0 = true := by unfold md_w2; rw [hx]; rfl
  exact ⟨by rw [hw]; rfl, rfl, rfl, by rw [hx]; exact v3.trans hp, fun h => absurd (hw.symm.trans h) (by decide), v8, v9, v10, v11⟩
theorem cs_F_self {σ : jk_I} {q : Nat} (d : Nat) (p : Int) : cs_F σ q d p (σ d) = jk_row σ q (jk_set (σ q) 2 p) := by unfold cs_F; rw [jk_row_id rfl]
theorem cs_mo {Bf : Int → Int} {ty : Int} {x : md_TR} (hf : x.1.2 = false) : (!(md_nd Bf ty 59 (x.1.1, false)).2) = md_mo Bf ty x ∧ (md_nd Bf ty 59 (x.1.1, false)).1 = x.1.1 + jB (md_mo Bf ty x) := by
  unfold md_mo md_nd
  rw [hf]
  by_cases h : md_he Bf ty x.1.1 = 59
  · simp [h, jB]
  · simp [h, jB]
theorem c_X7_readSignW {G : jk_G} {n : Nat} {t : jk_T} {σ : jk_I} {ρ : jk_P} {q : Nat} {Bf : Int → Int} {ty p c : Int} (hq : sc_at t ρ q) (hs : σ q 1 = ty) (hb : σ (q + 2) = Bf) (hB : ∀ j, 0 ≤ j ∧ j < 60 → 0 ≤ Bf j ∧ Bf j < 65536) (hty : 0 ≤ ty ∧ ty ≤ 60) (hp2 : σ q 2 = p) (hp : md_sok ty p) (hc : 0 < c ∧ c < 65536) : jk_K G yX7_readSign mX7_readSign 0 0 [.ref q, jI c] n t σ ρ (jk_q (some (jI (jB (!(md_nd Bf ty c (p, false)).2)))) n t (jk_row σ q (jk_set (σ q) 2 (md_nd Bf ty c (p, false)).1)) ρ) jk_no := by
  have h := c_X7_readSign (G := G) (n := n) (t := t) (σ := σ) (ρ := ρ) (q := q) (d := q + 8) (r := σ (q + 8)) (p := p) (c := c) hq hs hb hB hty (by omega) (by omega) hp hc
  rw [cs_F_id _ hp2, cs_F_self] at h
  exact h
theorem c_X7_read {G : jk_G} {n : Nat} {t : jk_T} {σ : jk_I} {ρ : jk_P} {q : Nat} {Bf P0 : Int → Int} {ty : Int} (hz : zz_ok G) (hv : zv_ok G) (hq : sc_at t ρ q) (hs : σ q 1 = ty) (hb : σ (q + 2) = Bf) (hB : ∀ j, 0 ≤ j ∧ j < 60 → 0 ≤ Bf j ∧ Bf j < 65536) (hty : 0 ≤ ty ∧ ty ≤ 60) (hbd : ∀ i, i < 10 → cs_bd (σ (q + (8 + 2 * i)))) : jk_K G yX7_read mX7_read 0 0 [.ref q] n t σ ρ (cs_rdQ Bf ty P0 q n t σ ρ) jk_no := by
  refine jk_entryB (ls := [some (.ref q), none, none]) jm_X7_read.1 rfl rfl rfl ?_
  refine jk_aload_n (q := 1) dX7_read_0 rfl rfl ?_
  refine jk_iconst (q := 2) dX7_read_1 rfl ?_
  refine jk_putIR (q := 5) (k := 7) 2 2 rfl (by first | exact hq.1.1 | assumption) (by first | rfl | exact jk_row_same _ _ _) rfl rfl rfl jw_320 dX7_read_2 rfl ?_
  refine jk_aload_n (q := 6) dX7_read_5 rfl rfl ?_
  refine jk_iconst (q := 7) dX7_read_6 rfl ?_
  refine jk_putIR (q := 10) (k := 7) 3 3 rfl (by first | exact hq.1.1 | assumption) (by first | rfl | exact jk_row_same _ _ _) rfl rfl rfl jw_322 dX7_read_7 rfl ?_
  refine jk_iconst (q := 11) dX7_read_10 rfl ?_
  refine jk_istore1 (q := 12) dX7_read_11 rfl rfl rfl ?_
  refine jk_iconst (q := 13) dX7_read_12 rfl ?_
  refine jk_istore2 (q := 14) dX7_read_13 rfl rfl rfl ?_
  have L14 : ∀ k14 : Nat, k14 ≤ 10 → ∀ (σ1 : jk_I) (ρ1 : jk_P), (hi : cs_iv Bf ty P0 q k14 σ ρ σ1 ρ1) → jk_J G mX7_read 14 [some (.ref q), some (jI (jB (md_sn Bf ty P0 k14).2)), some (jI (k14 : Int))] [] n t σ1 ρ1 0 0 (cs_rdQ Bf ty P0 q n t σ ρ) jk_no := by
    refine jk_loop _ (fun k14 hk14 ih14 => ?_)
    intro σ1 ρ1 hi
    have hi0 := hi
    obtain ⟨v1, v2, v3, v4, v5, v6, v7, v8, v9, v10, v11⟩ := hi
    have e1 : ((md_sn Bf ty P0 k14).1.1.1, false) = (md_sn Bf ty P0 k14).1.1 := Prod.ext rfl v2.symm
    have hq1 := sc_at_rho hq v11
    have hs1 : σ1 q 1 = ty := (v10 1 (by decide) (by decide)).trans hs
    have hb1 : σ1 (q + 2) = Bf := (v9 (q + 2) (by omega) (fun i hi => by omega)).trans hb
    have v51 := v5.1
    have v52 := v5.2
    refine jk_iload_n (q := 15) dX7_read_14 rfl rfl ?_
    refine jk_bipush (q := 17) (y := 10) dX7_read_15 rfl (by decide) ?_
    refine jk_icmp_ge (q := 46) (q2 := 20) dX7_read_17 rfl rfl (by first | assumption | decide | omega | exact jB_01 _ | exact jB_in _ | exact ⟨by omega, by omega⟩) (by first | assumption | decide | omega | exact jB_01 _ | exact jB_in _ | exact ⟨by omega, by omega⟩) (fun z1 => ?_) (fun z1 => ?_)
    · refine jk_iload_n (q := 47) dX7_read_46 rfl rfl ?_
      refine jk_ifB_ne (q := 65) (q2 := 50) dX7_read_47 rfl rfl (fun z2 => ?_) (fun z2 => ?_)
      · refine jk_iconst (q := 66) dX7_read_65 rfl ?_
        exact jk_zret rfl (by first | assumption | decide | omega | exact jB_01 _ | exact jB_in _ | exact ⟨by omega, by omega⟩) dX7_read_66 (by first
                | exact cs_rd_e (b := true) (by omega) hty hi0 (by assumption) (by rw [v3]; exact (decide_eq_true (by omega)).symm)
                | exact cs_rd_e (b := false) (by omega) hty hi0 (by assumption) (by rw [v3]; exact (decide_eq_false (by omega)).symm)
                | (have hk10 : k14 = 10 := by omega
                   subst hk10
                   exact cs_rd_10 hty hi0 (by assumption))
                | (have ha9 : (md_sn Bf ty P0 k14).2 = true := by assumption
                   have hb9 : (md_sn Bf ty P0 k14).2 = false := by assumption
                   rw [ha9] at hb9
                   exact absurd hb9 (by decide)))
      · refine jk_aload_n (q := 51) dX7_read_50 rfl rfl ?_
        refine jk_getIR (q := 54) (k := 7) 2 2 rfl (by first | exact hq.1.1 | assumption) (by first | rfl | exact jk_row_same _ _ _) rfl rfl jw_320 dX7_read_51 rfl ?_
        rw [v3]
        refine jk_aload_n (q := 55) dX7_read_54 rfl rfl ?_
        refine jk_getIR (q := 58) (k := 7) 1 1 rfl (by first | exact hq.1.1 | assumption) (by first | rfl | exact jk_row_same _ _ _) rfl rfl jw_318 dX7_read_55 rfl ?_
        rw [v10 1 (by decide) (by decide), hs]
        refine jk_icmp_ne (q := 65) (q2 := 61) dX7_read_58 rfl rfl (by first | assumption | decide | omega | exact jB_01 _ | exact jB_in _ | exact ⟨by omega, by omega⟩) (by first | assumption | decide | omega | exact jB_01 _ | exact jB_in _ | exact ⟨by omega, by omega⟩) (fun z3 => ?_) (fun z3 => ?_)
        · refine jk_iconst (q := 66) dX7_read_65 rfl ?_
          exact jk_zret rfl (by first | assumption | decide | omega | exact jB_01 _ | exact jB_in _ | exact ⟨by omega, by omega⟩) dX7_read_66 (by first
                  | exact cs_rd_e (b := true) (by omega) hty hi0 (by assumption) (by rw [v3]; exact (decide_eq_true (by omega)).symm)
                  | exact cs_rd_e (b := false) (by omega) hty hi0 (by assumption) (by rw [v3]; exact (decide_eq_false (by omega)).symm)
                  | (have hk10 : k14 = 10 := by omega
                     subst hk10
                     exact cs_rd_10 hty hi0 (by assumption))
                  | (have ha9 : (md_sn Bf ty P0 k14).2 = true := by assumption
                     have hb9 : (md_sn Bf ty P0 k14).2 = false := by assumption
                     rw [ha9] at hb9
                     exact absurd hb9 (by decide)))
        · refine jk_iconst (q := 62) dX7_read_61 rfl ?_
          refine jk_goto (q := 66) dX7_read_62 rfl ?_
          exact jk_zret rfl (by first | assumption | decide | omega | exact jB_01 _ | exact jB_in _ | exact ⟨by omega, by omega⟩) dX7_read_66 (by first
                  | exact cs_rd_e (b := true) (by omega) hty hi0 (by assumption) (by rw [v3]; exact (decide_eq_true (by omega)).symm)
                  | exact cs_rd_e (b := false) (by omega) hty hi0 (by assumption) (by rw [v3]; exact (decide_eq_false (by omega)).symm)
                  | (have hk10 : k14 = 10 := by omega
                     subst hk10
                     exact cs_rd_10 hty hi0 (by assumption))
                  | (have ha9 : (md_sn Bf ty P0 k14).2 = true := by assumption
                     have hb9 : (md_sn Bf ty P0 k14).2 = false := by assumption
                     rw [ha9] at hb9
                     exact absurd hb9 (by decide)))
    · refine jk_iload_n (q := 21) dX7_read_20 rfl rfl ?_
      refine jk_ifB_eq (q := 46) (q2 := 24) dX7_read_21 rfl rfl (fun z4 => ?_) (fun z4 => ?_)
      · refine jk_iload_n (q := 47) dX7_read_46 rfl rfl ?_
        refine jk_ifB_ne (q := 65) (q2 := 50) dX7_read_47 rfl rfl (fun z5 => ?_) (fun z5 => ?_)
        · refine jk_iconst (q := 66) dX7_read_65 rfl ?_
          exact jk_zret rfl (by first | assumption | decide | omega | exact jB_01 _ | exact jB_in _ | exact ⟨by omega, by omega⟩) dX7_read_66 (by first
                  | exact cs_rd_e (b := true) (by omega) hty hi0 (by assumption) (by rw [v3]; exact (decide_eq_true (by omega)).symm)
                  | exact cs_rd_e (b := false) (by omega) hty hi0 (by assumption) (by rw [v3]; exact (decide_eq_false (by omega)).symm)
                  | (have hk10 : k14 = 10 := by omega
                     subst hk10
                     exact cs_rd_10 hty hi0 (by assumption))
                  | (have ha9 : (md_sn Bf ty P0 k14).2 = true := by assumption
                     have hb9 : (md_sn Bf ty P0 k14).2 = false := by assumption
                     rw [ha9] at hb9
                     exact absurd hb9 (by decide)))
        · refine jk_aload_n (q := 51) dX7_read_50 rfl rfl ?_
          refine jk_getIR (q := 54) (k := 7) 2 2 rfl (by first | exact hq.1.1 | assumption) (by first | rfl | exact jk_row_same _ _ _) rfl rfl jw_320 dX7_read_51 rfl ?_
          rw [v3]
          refine jk_aload_n (q := 55) dX7_read_54 rfl rfl ?_
          refine jk_getIR (q := 58) (k := 7) 1 1 rfl (by first | exact hq.1.1 | assumption) (by first | rfl | exact jk_row_same _ _ _) rfl rfl jw_318 dX7_read_55 rfl ?_
          rw [v10 1 (by decide) (by decide), hs]
          refine jk_icmp_ne (q := 65) (q2 := 61) dX7_read_58 rfl rfl (by first | assumption | decide | omega | exact jB_01 _ | exact jB_in _ | exact ⟨by omega, by omega⟩) (by first | assumption | decide | omega | exact jB_01 _ | exact jB_in _ | exact ⟨by omega, by omega⟩) (fun z6 => ?_) (fun z6 => ?_)
          · refine jk_iconst (q := 66) dX7_read_65 rfl ?_
            exact jk_zret rfl (by first | assumption | decide | omega | exact jB_01 _ | exact jB_in _ | exact ⟨by omega, by omega⟩) dX7_read_66 (by first
                    | exact cs_rd_e (b := true) (by omega) hty hi0 (by assumption) (by rw [v3]; exact (decide_eq_true (by omega)).symm)
                    | exact cs_rd_e (b := false) (by omega) hty hi0 (by assumption) (by rw [v3]; exact (decide_eq_false (by omega)).symm)
                    | (have hk10 : k14 = 10 := by omega
                       subst hk10
                       exact cs_rd_10 hty hi0 (by assumption))
                    | (have ha9 : (md_sn Bf ty P0 k14).2 = true := by assumption
                       have hb9 : (md_sn Bf ty P0 k14).2 = false := by assumption
                       rw [ha9] at hb9
                       exact absurd hb9 (by decide)))
          · refine jk_iconst (q := 62) dX7_read_61 rfl ?_
            refine jk_goto (q := 66) dX7_read_62 rfl ?_
            exact jk_zret rfl (by first | assumption | decide | omega | exact jB_01 _ | exact jB_in _ | exact ⟨by omega, by omega⟩) dX7_read_66 (by first
                    | exact cs_rd_e (b := true) (by omega) hty hi0 (by assumption) (by rw [v3]; exact (decide_eq_true (by omega)).symm)
                    | exact cs_rd_e (b := false) (by omega) hty hi0 (by assumption) (by rw [v3]; exact (decide_eq_false (by omega)).symm)
                    | (have hk10 : k14 = 10 := by omega
                       subst hk10
                       exact cs_rd_10 hty hi0 (by assumption))
                    | (have ha9 : (md_sn Bf ty P0 k14).2 = true := by assumption
                       have hb9 : (md_sn Bf ty P0 k14).2 = false := by assumption
                       rw [ha9] at hb9
                       exact absurd hb9 (by decide)))
      · have hmo : (md_sn Bf ty P0 k14).2 = true := by assumption
        refine jk_aload_n (q := 25) dX7_read_24 rfl rfl ?_
        refine jk_cV0g (q := 28) (c_X7_readCommand (K := 5 * (k14 : Int)) (P := (md_sn Bf ty P0 k14).1.2) (c := k14) hz hv hq1 hs1 hb1 hB hty v3 v5 v4 (by omega) (v8 k14 (by omega))) jm_X7_readCommand jw_1511 rfl (by first | exact hq.1.1 | assumption) rfl rfl (Nat.zero_le _) (Nat.zero_le _) rfl dX7_read_25 rfl (fun v' n' t' σ2 ρ2 hc => ?_) (fun _ _ _ _ _ h => h.elim)
        obtain ⟨rfl, rfl, rfl⟩ : v' = some (jI (jB (!(md_c1 Bf ty P0 k14).1.2))) ∧ n' = n ∧ t' = t := by
          refine ⟨?_, hc.2.1, hc.2.2.1⟩
          rw [hc.1, e1]; rfl
        have hc0 := hc
        obtain ⟨-, -, -, u4, u5, u6, u7, u8, u9, u10⟩ := hc
        rw [e1] at u4
        simp only [Option.toList_some, List.cons_append, List.nil_append, Nat.sub_zero]
        refine jk_ifB_ne (q := 33) (q2 := 31) dX7_read_28 rfl rfl (fun z7 => ?_) (fun z7 => ?_)
        · have hf : (md_c1 Bf ty P0 k14).1.2 = false := by have h9 := ‹(!(md_c1 Bf ty P0 k14).1.2) = true›; revert h9; cases (md_c1 Bf ty P0 k14).1.2 <;> decide
          have hok1 : md_sok ty (md_c1 Bf ty P0 k14).1.1 := md_cmd_ok hB hty (5 * (k14 : Int)) (s := (md_sn Bf ty P0 k14).1.1) (md_sn Bf ty P0 k14).1.2 v5
          refine jk_aload_n (q := 34) dX7_read_33 rfl rfl ?_
          refine jk_bipush (q := 36) (y := 59) dX7_read_34 rfl (by decide) ?_
          refine jk_cV1p (q := 39) (c_X7_readSignW (c := 59) (p := (md_c1 Bf ty P0 k14).1.1) (sc_at_rho hq1 u9) ((u8 1 (by decide) (by decide)).trans hs1) ((u7 _ (by omega) (by omega)).trans hb1) hB hty u4 hok1 (by decide)) jm_X7_readSign jw_1553 rfl (by first | exact hq.1.1 | assumption) rfl rfl rfl dX7_read_36 rfl ?_
          rw [(cs_mo hf).1, (cs_mo hf).2]
          refine jk_istore1 (q := 40) dX7_read_39 rfl rfl rfl ?_
          refine jk_iinc2 (q := 43) dX7_read_40 rfl rfl rfl ?_
          refine jk_goto (q := 14) dX7_read_43 rfl ?_
          have h9 := ih14 (by omega) _ _ (cs_iv_S hB hty (by omega) hi0 hmo hc0 hf)
          refine jk_convl h9 (jk_loc rfl (jk_loc rfl (jk_loc (jk_li (by omega)) rfl)))
        · have hf : (md_c1 Bf ty P0 k14).1.2 = true := by have h9 := ‹(!(md_c1 Bf ty P0 k14).1.2) = false›; revert h9; cases (md_c1 Bf ty P0 k14).1.2 <;> decide
          refine jk_iconst (q := 32) dX7_read_31 rfl ?_
          exact jk_zret rfl (by first | assumption | decide | omega | exact jB_01 _ | exact jB_in _ | exact ⟨by omega, by omega⟩) dX7_read_32 (by exact cs_rd_x (by omega) hi0 hmo hc0 hf)
  exact L14 0 (Nat.zero_le _) _ _ ⟨fun i hi => absurd hi (Nat.not_lt_zero _), rfl, by rw [jk_row_same, jk_set_ne _ _ (by decide), jk_row_same, jk_set_at]; rfl, by rw [jk_row_same, jk_set_at]; rfl, ⟨Int.le_refl _, hty.1⟩, fun _ => Int.le_refl _, ⟨fun _ => 0, fun i hi => absurd hi (Nat.not_lt_zero _)⟩, fun i hi => by rw [jk_row_ne _ _ (by omega), jk_row_ne _ _ (by omega)]; exact hbd i hi, fun a h1 h2 => by rw [jk_row_ne _ _ h1, jk_row_ne _ _ h1], fun j h1 h2 => by rw [jk_row_same, jk_set_ne _ _ h2, jk_row_same, jk_set_ne _ _ h1], fun _ _ => rfl⟩
end S6
