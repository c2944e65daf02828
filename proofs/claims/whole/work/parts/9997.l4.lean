section L4
/-- a query: the class's answer in its row, the model's the same -/
theorem lc_query {G : jk_G} {yL yM : MethodName} {mL mM : jk_M} {hh : List (Nat × Nat × Nat × Nat)} {As Bs : List Value} {bo : Bool} {x m o d k n v K : Nat} {t : jk_T} {σ : jk_I} {ρ : jk_P} {B : Int} {O g b h sv Bf L P : Int → Int} {Lo : List Int} {c val val1 : Int} {ex : Int → String} {cs : List String} {mc ms : Nat}
    (hat : lr_at n t σ ρ x m o d v K B O g b h sv Bf L P Lo) (hb : B + 85 * O 7 ≤ 85 * (k : Int)) (KW : jk_KH G yL mL hh mc ms As n t σ ρ (wQ o cs (ln_RQ x c (jI val1) σ n t ρ) (ln_RX x c ex σ n t ρ)) jk_no) (hvv : c = 0 → val1 = val)
    (hk : ∀ i : Nat, i < cs.length → c ≠ 0 → cs.getD i "" = ex c → c = (i : Int) + 1) (hc : jk_in c) (hbo : bo = true → ∃ b : Bool, val = jB b)
    (KM : ∀ n' σ1, lr_at n' t σ1 ρ x m o d v K B O g b h sv Bf L P Lo → jk_K G yM mM 0 0 Bs n' t σ1 ρ (md_Q m σ1 O n' t ρ c (jI val)) jk_no) : lc_F G yL mL hh mc ms As yM mM Bs bo x m o d k n t σ ρ := by
  refine ⟨_, KW, fun v' n' t' σ' ρ' hq => ?_⟩
  obtain ⟨rfl, hn, rfl, rfl, hv, hf⟩ := wq_0 hk hq
  have hat1 := lr_cq hat hn (fun a h1 h2 _ => hf a h1 h2)
  refine ⟨c, rfl, hc, hat1.2.1.1.1, _, KM _ _ hat1, fun w n2 t2 σ2 ρ2 h2 => ?_⟩
  obtain ⟨rfl, rfl, rfl, rfl, hp⟩ := h2
  have hat2 := lr_mq hat1 hp
  have hpl := hat.1.1
  refine ⟨val, rfl, hbo, ⟨jk_set O 12 c, hat2.2.1.1, hat2.2.1.2.1.1, jk_set_at _ _ _⟩, hat2.1.2.2.2.1, fun h0 => ?_, ⟨v, K, B, jk_set O 12 c, g, b, h, sv, Bf, L, P, Lo, hat2, ?_⟩⟩
  · rw [hp.2.1 o (by unfold md_scr; omega) (by omega)]; exact (hv h0).trans (by rw [hvv h0])
  · rw [jk_set_ne _ _ (by decide)]; omega
/-- a query that is asked of both without more -/
theorem lc_queryV {G : jk_G} {yC yM : MethodName} {mC mM : jk_M} {x m o d k n v K : Nat} {t : jk_T} {σ : jk_I} {ρ : jk_P} {B : Int} {O g b h sv Bf L P : Int → Int} {Lo : List Int} {val : Int} {mc ms : Nat} {X : jk_X}
    (hat : lr_at n t σ ρ x m o d v K B O g b h sv Bf L P Lo) (hb : B + 85 * O 7 ≤ 85 * (k : Int)) (KC : jk_K G yC mC mc ms [.ref x] n t σ ρ (ln_RQ x 0 (jI val) σ n t ρ) X) (hX : ∀ E n' t' σ' ρ', X E n' t' σ' ρ' → False) (hv : jk_in val)
    (KM : ∀ n' σ1, lr_at n' t σ1 ρ x m o d v K B O g b h sv Bf L P Lo → jk_K G yM mM 0 0 [.ref m] n' t σ1 ρ (md_Q m σ1 O n' t ρ 0 (jI val)) jk_no) : lc_V G yC mC mc ms yM mM x m o d k n t σ ρ := by
  refine ⟨_, _, KC, hX, hat.2.2.1.1.1, fun v' n' t' σ' ρ' hq => ?_⟩
  obtain ⟨-, rfl, rfl, rfl, rfl, hf⟩ := hq
  have hat1 := lr_cq hat (Nat.le_refl _) (fun a h1 _ _ => hf a h1)
  refine ⟨val, rfl, hv, hat1.2.1.1.1, _, KM _ _ hat1, fun w n2 t2 σ2 ρ2 h2 => ?_⟩
  obtain ⟨rfl, rfl, rfl, rfl, hp⟩ := h2
  have hat2 := lr_mq hat1 hp
  refine ⟨rfl, ⟨v, K, B, jk_set O 12 0, g, b, h, sv, Bf, L, P, Lo, hat2, ?_⟩⟩
  rw [jk_set_ne _ _ (by decide)]; omega
/-- the small facts of the relation -/
theorem lr_f {n : Nat} {t : jk_T} {σ : jk_I} {ρ : jk_P} {x m o d v K : Nat} {B : Int} {O g b h sv Bf L P : Int → Int} {Lo : List Int} (hat : lr_at n t σ ρ x m o d v K B O g b h sv Bf L P Lo) : t x = some (.inr 12) ∧ ln_at t ρ x ∧ cl_rel σ (x + 2) g ∧ md_all B g ∧ cl_nn σ (x + 2) ∧ md_sit g ∧ md_at t ρ m ∧ σ (m + 2) = g ∧ σ m = O ∧ md_z σ m ∧ md_z10 σ m ∧ t o = some (.inl (.long, 1)) ∧ md_loops g :=
  ⟨hat.2.2.1.1.1, hat.2.2.1.1, hat.2.2.1.2.1, hat.2.2.2.2.1.1, hat.2.2.1.2.2.1.1, hat.2.2.2.2.1.2, hat.2.1.1, hat.2.1.2.1.2.1, hat.2.1.2.1.1, hat.2.1.2.2.1, hat.2.1.2.2.2, hat.1.2.2.2.1, md_loops_ok hat.2.2.2.2.1.1.1 hat.2.2.2.2.1.1.2.1⟩
theorem lr_B {n k : Nat} {t : jk_T} {σ : jk_I} {ρ : jk_P} {x m o d v K : Nat} {B : Int} {O g b h sv Bf L P : Int → Int} {Lo : List Int} (hat : lr_at n t σ ρ x m o d v K B O g b h sv Bf L P Lo) (hb : B + 85 * O 7 ≤ 85 * (k : Int)) (hk : k ≤ 512) : B ≤ 43520 := by
  have h7 := hat.2.2.2.2.2.2.2.2.2.2.2.2.2.1
  omega
theorem ln_RX0 {x : Nat} {k : Int} {ex : Int → String} {σ : jk_I} {n : Nat} {t : jk_T} {ρ : jk_P} {E : String} {n' : Nat} {t' : jk_T} {σ' : jk_I} {ρ' : jk_P} (hk : k = 0) (h : ln_RX x k ex σ n t ρ E n' t' σ' ρ') : False := h.1 hk
theorem ex_2c {a b : String} {k : Int} {E : String} (h : E = ex_2 a b k) : E = a ∨ E = b := by
  subst h; unfold ex_2; split
  · exact Or.inl rfl
  · exact Or.inr rfl
theorem ex_3c {a b c : String} {k : Int} {E : String} (h : E = ex_3 a b c k) : E = a ∨ E = b ∨ E = c := by
  subst h; unfold ex_3; split
  · exact Or.inl rfl
  · split
    · exact Or.inr (Or.inl rfl)
    · exact Or.inr (Or.inr rfl)
theorem jk_in012 {c : Int} (h : c = 0 ∨ c = 1) : jk_in c := by rcases h with rfl | rfl <;> exact ⟨by decide, by decide⟩
theorem jk_in0123 {c : Int} (h : c = 0 ∨ c = 1 ∨ c = 2) : jk_in c := by rcases h with rfl | rfl | rfl <;> exact ⟨by decide, by decide⟩
theorem jk_in3 {c : Int} (h : c = 0 ∨ c = 1 ∨ c = 2 ∨ c = 3) : jk_in c := by rcases h with rfl | rfl | rfl | rfl <;> exact ⟨by decide, by decide⟩
theorem md_why012 (g : Int → Int) (l : Int) : 0 < md_why g l → md_why g l = 0 ∨ md_why g l = 1 ∨ md_why g l = 2 := fun _ => by
  have := md_why_bd g l
  omega

theorem md_q_fx_c (g : Int → Int) (p : Int) : (md_q_fx g p).1 = 0 ∨ (md_q_fx g p).1 = 1 := by
  unfold md_q_fx
  repeat' split
  all_goals first | exact Or.inl rfl | exact Or.inr (rfl)
theorem md_q_hh_c (g : Int → Int) (p : Int) : (md_q_hh g p).1 = 0 ∨ (md_q_hh g p).1 = 1 := by
  unfold md_q_hh
  repeat' split
  all_goals first | exact Or.inl rfl | exact Or.inr (rfl)
theorem md_q_ht_c (g : Int → Int) (p : Int) : (md_q_ht g p).1 = 0 ∨ (md_q_ht g p).1 = 1 ∨ (md_q_ht g p).1 = 2 := by
  unfold md_q_ht
  repeat' split
  all_goals first | exact Or.inl rfl | exact Or.inr (Or.inl rfl) | exact Or.inr (Or.inr (rfl))
theorem md_q_ce_c (g : Int → Int) (p : Int) : (md_q_ce g p).1 = 0 ∨ (md_q_ce g p).1 = 1 ∨ (md_q_ce g p).1 = 2 := by
  unfold md_q_ce
  repeat' split
  all_goals first | exact Or.inl rfl | exact Or.inr (Or.inl rfl) | exact Or.inr (Or.inr (rfl))
theorem md_q_da_c (g : Int → Int) (p : Int) : (md_q_da g p).1 = 0 ∨ (md_q_da g p).1 = 1 ∨ (md_q_da g p).1 = 2 := by
  unfold md_q_da
  repeat' split
  all_goals first | exact Or.inl rfl | exact Or.inr (Or.inl rfl) | exact Or.inr (Or.inr (rfl))
theorem md_q_bh_c (g : Int → Int) (p : Int) : (md_q_bh g p).1 = 0 ∨ (md_q_bh g p).1 = 1 := by
  unfold md_q_bh
  repeat' split
  all_goals first | exact Or.inl rfl | exact Or.inr (rfl)
theorem md_q_firstOf_c (g : Int → Int) (p : Int) : (md_q_firstOf g p).1 = 0 ∨ (md_q_firstOf g p).1 = 1 := by
  unfold md_q_firstOf md_q_ln
  repeat' split
  all_goals first | exact Or.inl rfl | exact Or.inr (rfl)
theorem md_q_secondOf_c (g : Int → Int) (p : Int) : (md_q_secondOf g p).1 = 0 ∨ (md_q_secondOf g p).1 = 1 := by
  unfold md_q_secondOf md_q_ln
  repeat' split
  all_goals first | exact Or.inl rfl | exact Or.inr (rfl)
theorem md_q_lengthOf_c (g : Int → Int) (p : Int) : (md_q_lengthOf g p).1 = 0 ∨ (md_q_lengthOf g p).1 = 1 := by
  unfold md_q_lengthOf md_q_ln
  repeat' split
  all_goals first | exact Or.inl rfl | exact Or.inr (rfl)
theorem md_q_lv_c (g : Int → Int) (p : Int) : (md_q_lv g p).1 = 0 ∨ (md_q_lv g p).1 = 1 := by
  unfold md_q_lv
  repeat' split
  all_goals first | exact Or.inl rfl | exact Or.inr (rfl)
theorem md_q_correction_c (g : Int → Int) (p : Int) : (md_q_correction g p).1 = 0 ∨ (md_q_correction g p).1 = 1 := by
  unfold md_q_correction md_q_ln
  repeat' split
  all_goals first | exact Or.inl rfl | exact Or.inr (rfl)
theorem md_q_di_c (g : Int → Int) (p : Int) : (md_q_di g p).1 = 0 ∨ (md_q_di g p).1 = 1 ∨ (md_q_di g p).1 = 2 := by
  unfold md_q_di
  repeat' split
  all_goals first | exact Or.inl rfl | exact Or.inr (Or.inl rfl) | exact Or.inr (Or.inr (rfl))
theorem md_q_ex_c (g : Int → Int) (p : Int) : (md_q_ex g p).1 = 0 ∨ (md_q_ex g p).1 = 1 := by
  unfold md_q_ex
  repeat' split
  all_goals first | exact Or.inl rfl | exact Or.inr (rfl)
theorem md_q_us_c (g : Int → Int) (p : Int) : (md_q_us g p).1 = 0 ∨ (md_q_us g p).1 = 1 := by
  unfold md_q_us
  repeat' split
  all_goals first | exact Or.inl rfl | exact Or.inr (rfl)
theorem md_q_to_c (g : Int → Int) (p : Int) : (md_q_to g p).1 = 0 ∨ (md_q_to g p).1 = 1 := by
  unfold md_q_to
  repeat' split
  all_goals first | exact Or.inl rfl | exact Or.inr (rfl)
theorem md_q_ld_c (g : Int → Int) (p : Int) : (md_q_ld g p).1 = 0 ∨ (md_q_ld g p).1 = 1 := by
  unfold md_q_ld
  repeat' split
  all_goals first | exact Or.inl rfl | exact Or.inr (rfl)
theorem md_q_if_c (g : Int → Int) (p : Int) : (md_q_if g p).1 = 0 ∨ (md_q_if g p).1 = 1 := by
  unfold md_q_if
  repeat' split
  all_goals first | exact Or.inl rfl | exact Or.inr (rfl)
theorem md_q_la_c (g : Int → Int) (p : Int) : (md_q_la g p).1 = 0 ∨ (md_q_la g p).1 = 1 := by
  unfold md_q_la
  repeat' split
  all_goals first | exact Or.inl rfl | exact Or.inr (rfl)
theorem md_q_ls_c (g : Int → Int) (p : Int) : (md_q_ls g p).1 = 0 ∨ (md_q_ls g p).1 = 1 ∨ (md_q_ls g p).1 = 2 := by
  have hw := md_why012 g p
  unfold md_q_ls
  repeat' split
  all_goals first | (exact hw (by assumption)) | exact Or.inl rfl | exact Or.inr (Or.inl rfl) | exact Or.inr (Or.inr rfl)
theorem md_q_ll_c (g : Int → Int) (p : Int) : (md_q_ll g p).1 = 0 ∨ (md_q_ll g p).1 = 1 ∨ (md_q_ll g p).1 = 2 := by
  have hw := md_why012 g p
  unfold md_q_ll
  repeat' split
  all_goals first | (exact hw (by assumption)) | exact Or.inl rfl | exact Or.inr (Or.inl rfl) | exact Or.inr (Or.inr rfl)
theorem md_q_mc_c (g : Int → Int) (p : Int) : (md_q_mc g p).1 = 0 ∨ (md_q_mc g p).1 = 1 ∨ (md_q_mc g p).1 = 2 := by
  have hw := md_why012 g p
  unfold md_q_mc
  repeat' split
  all_goals first | (exact hw (by assumption)) | exact Or.inl rfl | exact Or.inr (Or.inl rfl) | exact Or.inr (Or.inr rfl)
theorem md_q_pt_c (g : Int → Int) (p c : Int) : (md_q_pt g p c).1 = 0 ∨ (md_q_pt g p c).1 = 1 ∨ (md_q_pt g p c).1 = 2 := by
  have hw := md_why012 g p
  unfold md_q_pt
  repeat' split
  all_goals first | (exact hw (by assumption)) | exact Or.inl rfl | exact Or.inr (Or.inl rfl) | exact Or.inr (Or.inr rfl)
theorem md_q_st_c (g : Int → Int) (p : Int) : (md_q_st g p).1 = 0 ∨ (md_q_st g p).1 = 1 := by
  unfold md_q_st
  repeat' split
  all_goals first | exact Or.inl rfl | exact Or.inr (rfl)
theorem md_q_gr_c (g : Int → Int) (p c : Int) : (md_q_gr g p c).1 = 0 ∨ (md_q_gr g p c).1 = 1 ∨ (md_q_gr g p c).1 = 2 ∨ (md_q_gr g p c).1 = 3 := by
  unfold md_q_gr
  repeat' split
  all_goals first | exact Or.inl rfl | exact Or.inr (Or.inl rfl) | exact Or.inr (Or.inr (Or.inl rfl)) | exact Or.inr (Or.inr (Or.inr (rfl)))
theorem md_q_wc_c (g : Int → Int) (p : Int) : (md_q_wc g p).1 = 0 ∨ (md_q_wc g p).1 = 1 ∨ (md_q_wc g p).1 = 2 := by
  have hw : md_wng g p = 0 ∨ md_wng g p = 1 ∨ md_wng g p = 2 := by
    unfold md_wng
    repeat' split
    all_goals first | exact Or.inl rfl | exact Or.inr (Or.inl rfl) | exact Or.inr (Or.inr rfl)
  unfold md_q_wc
  repeat' split
  all_goals first | exact hw | exact Or.inl rfl
theorem md_q_sh_c (g : Int → Int) (p : Int) : (md_q_sh g p).1 = 0 ∨ (md_q_sh g p).1 = 1 ∨ (md_q_sh g p).1 = 2 := by
  have hw : md_wng g p = 0 ∨ md_wng g p = 1 ∨ md_wng g p = 2 := by
    unfold md_wng
    repeat' split
    all_goals first | exact Or.inl rfl | exact Or.inr (Or.inl rfl) | exact Or.inr (Or.inr rfl)
  unfold md_q_sh
  repeat' split
  all_goals first | exact hw | exact Or.inl rfl
theorem md_q_lw_c (g : Int → Int) (p : Int) : (md_q_lw g p).1 = 0 ∨ (md_q_lw g p).1 = 1 ∨ (md_q_lw g p).1 = 2 := by
  unfold md_q_lw
  repeat' split
  all_goals first | exact Or.inl rfl | exact Or.inr (Or.inl rfl) | exact Or.inr (Or.inr (rfl))
theorem md_q_fl_in {B : Int} {g : Int → Int} (h : md_all B g) : jk_in (md_q_fl g).2 := by
  have h1 := h.1.2.1
  have hs := jk_sum_bd2 (f := fun l => md_T g l * g (56 + l)) (a := 0) (b := 800) (g 1).toNat (fun l h0 hl => by
    obtain ⟨-, -, ⟨a1, a2⟩, -⟩ := h.1.2.2.2.2.2.1 l ⟨h0, by omega⟩
    have hT : md_T g l = 0 ∨ md_T g l = 1 := (md_kr_tr h.1 50).1 l ⟨h0, by omega⟩
    show 0 ≤ md_T g l * g (56 + l) ∧ md_T g l * g (56 + l) ≤ 800
    rcases hT with e | e <;> rw [e] <;> constructor <;> omega)
  show jk_in (jk_sum _ _)
  exact ⟨by omega, by omega⟩
theorem md_q_tc_in {B : Int} {g : Int → Int} (h : md_all B g) : jk_in (md_q_tc g).2 := by
  have h1 := h.1.1
  have hs := jk_sum_bd2 (f := fun p => if md_Ro g p = p then 1 else 0) (a := 0) (b := 1) (g 0).toNat (fun l h0 hl => by
    show 0 ≤ (if md_Ro g l = l then (1 : Int) else 0) ∧ (if md_Ro g l = l then (1 : Int) else 0) ≤ 1
    split <;> exact ⟨by decide, by decide⟩)
  show jk_in (jk_sum _ _)
  exact ⟨by omega, by omega⟩
theorem md_q_lo_in {B : Int} {g : Int → Int} (h : md_all B g) : jk_in (md_q_lo g).2 := by
  have h1 := h.1.2.1
  have hs := jk_sum_bd2 (f := fun l => jB (md_clo g (md_T g) l)) (a := 0) (b := 1) (g 1).toNat (fun l h0 hl => by
    show 0 ≤ jB (md_clo g (md_T g) l) ∧ jB (md_clo g (md_T g) l) ≤ 1
    rcases jB_01 (md_clo g (md_T g) l) with e | e <;> rw [e] <;> exact ⟨by decide, by decide⟩)
  show jk_in (jk_sum _ _)
  exact ⟨by omega, by omega⟩
theorem lf_13 {G : jk_G} {n : Nat} {t : jk_T} {σ : jk_I} {ρ : jk_P} {N : Nat} {f : Nat → Int} {x m o d k : Nat} (hzl : zl_ok G N f) (hr : lr x m o d k n t σ ρ) (hk9 : k ≤ 512) : lc_F G yL_isFixed mL_isFixed [(0, 16, 19, 19)] 6 36 [.ref x, jI (f (5 * (k : Int) + 1).toNat), .ref o] yX13_isFixed mX13_isFixed [.ref m, jI (f (5 * (k : Int) + 1).toNat)] true x m o d k n t σ ρ := by
  obtain ⟨hz, hzx, hzv, hzp, hzn, ⟨hN, hf⟩, -⟩ := hzl
  obtain ⟨v, K, B, O, g, b, h, sv, Bf, L, P, Lo, hat, hb⟩ := hr
  obtain ⟨hx, hln, hrel, hall, hnn, hsi, hma, hmg, hmo, hmz, hmz1, hto, hJ⟩ := lr_f hat
  have hB := lr_B hat hb hk9
  have hc := md_q_fx_c g (f (5 * (k : Int) + 1).toNat)
  refine lc_query hat hb (c := (md_q_fx g (f (5 * (k : Int) + 1).toNat)).1) (val := jB (md_q_fx g (f (5 * (k : Int) + 1).toNat)).2) (w_isFixed hzn hx (c_X12_isFixed hz hzx hln hrel hall hnn hsi (hf _)) (fun v' n' t' σ' ρ' hq => ⟨⟨_, hq.2.1⟩, by rw [hq.2.2.2.1]; exact hto⟩) (fun E n' t' σ' ρ' hx9 => hx9.2.1)) (fun _ => rfl) (wq_k1 hc) (jk_in012 hc) (fun _ => ⟨_, rfl⟩) (fun n' σ1 h1 => ?_)
  obtain ⟨-, -, -, q4, -, -, q7, q8, q9, q10, q11, -, q13⟩ := lr_f h1
  exact c_X13_isFixed q7 q8 q4.1 q9 q10 q11 (hf _) 
theorem lf_14 {G : jk_G} {n : Nat} {t : jk_T} {σ : jk_I} {ρ : jk_P} {N : Nat} {f : Nat → Int} {x m o d k : Nat} (hzl : zl_ok G N f) (hr : lr x m o d k n t σ ρ) (hk9 : k ≤ 512) : lc_F G yL_hasHeight mL_hasHeight [(0, 16, 19, 19)] 6 36 [.ref x, jI (f (5 * (k : Int) + 1).toNat), .ref o] yX13_hasHeight mX13_hasHeight [.ref m, jI (f (5 * (k : Int) + 1).toNat)] true x m o d k n t σ ρ := by
  obtain ⟨hz, hzx, hzv, hzp, hzn, ⟨hN, hf⟩, -⟩ := hzl
  obtain ⟨v, K, B, O, g, b, h, sv, Bf, L, P, Lo, hat, hb⟩ := hr
  obtain ⟨hx, hln, hrel, hall, hnn, hsi, hma, hmg, hmo, hmz, hmz1, hto, hJ⟩ := lr_f hat
  have hB := lr_B hat hb hk9
  have hc := md_q_hh_c g (f (5 * (k : Int) + 1).toNat)
  refine lc_query hat hb (c := (md_q_hh g (f (5 * (k : Int) + 1).toNat)).1) (val := jB (md_q_hh g (f (5 * (k : Int) + 1).toNat)).2) (w_hasHeight hzn hx (c_X12_hasHeight hz hzx hln hrel hall hnn hsi (hf _)) (fun v' n' t' σ' ρ' hq => ⟨⟨_, hq.2.1⟩, by rw [hq.2.2.2.1]; exact hto⟩) (fun E n' t' σ' ρ' hx9 => hx9.2.1)) (fun _ => rfl) (wq_k1 hc) (jk_in012 hc) (fun _ => ⟨_, rfl⟩) (fun n' σ1 h1 => ?_)
  obtain ⟨-, -, -, q4, -, -, q7, q8, q9, q10, q11, -, q13⟩ := lr_f h1
  exact c_X13_hasHeight q7 q8 q4.1 q9 q10 q11 (hf _) 
theorem lf_15 {G : jk_G} {n : Nat} {t : jk_T} {σ : jk_I} {ρ : jk_P} {N : Nat} {f : Nat → Int} {x m o d k : Nat} (hzl : zl_ok G N f) (hr : lr x m o d k n t σ ρ) (hk9 : k ≤ 512) : lc_F G yL_height mL_height [(0, 9, 12, 19), (0, 9, 15, 43)] 6 36 [.ref x, jI (f (5 * (k : Int) + 1).toNat), .ref o] yX13_height mX13_height [.ref m, jI (f (5 * (k : Int) + 1).toNat)] false x m o d k n t σ ρ := by
  obtain ⟨hz, hzx, hzv, hzp, hzn, ⟨hN, hf⟩, -⟩ := hzl
  obtain ⟨v, K, B, O, g, b, h, sv, Bf, L, P, Lo, hat, hb⟩ := hr
  obtain ⟨hx, hln, hrel, hall, hnn, hsi, hma, hmg, hmo, hmz, hmz1, hto, hJ⟩ := lr_f hat
  have hB := lr_B hat hb hk9
  have hc := md_q_ht_c g (f (5 * (k : Int) + 1).toNat)
  refine lc_query hat hb (c := (md_q_ht g (f (5 * (k : Int) + 1).toNat)).1) (val := (md_q_ht g (f (5 * (k : Int) + 1).toNat)).2) (w_height hzn hx (c_X12_height hz hzx hln hrel hall hnn hsi (hf _)) (fun v' n' t' σ' ρ' hq => ⟨⟨_, hq.2.1⟩, by rw [hq.2.2.2.1]; exact hto⟩) (fun E n' t' σ' ρ' hx9 => ex_2c hx9.2.1)) (fun _ => rfl) (wq_k2 (by decide) hc) (jk_in0123 hc) (fun h => by cases h) (fun n' σ1 h1 => ?_)
  obtain ⟨-, -, -, q4, -, -, q7, q8, q9, q10, q11, -, q13⟩ := lr_f h1
  exact c_X13_height q7 q8 q4.1 q9 q10 q11 (hf _) 
theorem lf_16 {G : jk_G} {n : Nat} {t : jk_T} {σ : jk_I} {ρ : jk_P} {N : Nat} {f : Nat → Int} {x m o d k : Nat} (hzl : zl_ok G N f) (hr : lr x m o d k n t σ ρ) (hk9 : k ≤ 512) : lc_F G yL_heightByRounds mL_heightByRounds [(0, 9, 12, 19), (0, 9, 15, 43)] 6 36 [.ref x, jI (f (5 * (k : Int) + 1).toNat), .ref o] yX13_heightByRounds mX13_heightByRounds [.ref m, jI (f (5 * (k : Int) + 1).toNat)] false x m o d k n t σ ρ := by
  obtain ⟨hz, hzx, hzv, hzp, hzn, ⟨hN, hf⟩, -⟩ := hzl
  obtain ⟨v, K, B, O, g, b, h, sv, Bf, L, P, Lo, hat, hb⟩ := hr
  obtain ⟨hx, hln, hrel, hall, hnn, hsi, hma, hmg, hmo, hmz, hmz1, hto, hJ⟩ := lr_f hat
  have hB := lr_B hat hb hk9
  have hc := md_q_ht_c g (f (5 * (k : Int) + 1).toNat)
  refine lc_query hat hb (c := (md_q_ht g (f (5 * (k : Int) + 1).toNat)).1) (val := (md_q_ht g (f (5 * (k : Int) + 1).toNat)).2) (w_heightByRounds hzn hx (c_X12_heightByRounds hz hzx hln hrel hall hnn hsi (hf _)) (fun v' n' t' σ' ρ' hq => ⟨⟨_, hq.2.1⟩, by rw [hq.2.2.2.1]; exact hto⟩) (fun E n' t' σ' ρ' hx9 => ex_2c hx9.2.1)) (fun _ => rfl) (wq_k2 (by decide) hc) (jk_in0123 hc) (fun h => by cases h) (fun n' σ1 h1 => ?_)
  obtain ⟨-, -, -, q4, -, -, q7, q8, q9, q10, q11, -, q13⟩ := lr_f h1
  exact c_X13_heightByRounds q7 q8 q4.1 q9 q10 q11 (hf _) 
theorem lf_17 {G : jk_G} {n : Nat} {t : jk_T} {σ : jk_I} {ρ : jk_P} {N : Nat} {f : Nat → Int} {x m o d k : Nat} (hzl : zl_ok G N f) (hr : lr x m o d k n t σ ρ) (hk9 : k ≤ 512) : lc_F G yL_closingError mL_closingError [(0, 9, 12, 19), (0, 9, 15, 43)] 6 36 [.ref x, jI (f (5 * (k : Int) + 1).toNat), .ref o] yX13_closingError mX13_closingError [.ref m, jI (f (5 * (k : Int) + 1).toNat)] false x m o d k n t σ ρ := by
  obtain ⟨hz, hzx, hzv, hzp, hzn, ⟨hN, hf⟩, -⟩ := hzl
  obtain ⟨v, K, B, O, g, b, h, sv, Bf, L, P, Lo, hat, hb⟩ := hr
  obtain ⟨hx, hln, hrel, hall, hnn, hsi, hma, hmg, hmo, hmz, hmz1, hto, hJ⟩ := lr_f hat
  have hB := lr_B hat hb hk9
  have hc := md_q_ce_c g (f (5 * (k : Int) + 1).toNat)
  refine lc_query hat hb (c := (md_q_ce g (f (5 * (k : Int) + 1).toNat)).1) (val := (md_q_ce g (f (5 * (k : Int) + 1).toNat)).2) (w_closingError hzn hx (c_X12_closingError hz hzx hln hrel hall hnn hsi (hf _)) (fun v' n' t' σ' ρ' hq => ⟨⟨_, hq.2.1⟩, by rw [hq.2.2.2.1]; exact hto⟩) (fun E n' t' σ' ρ' hx9 => ex_2c hx9.2.1)) (fun _ => rfl) (wq_k2 (by decide) hc) (jk_in0123 hc) (fun h => by cases h) (fun n' σ1 h1 => ?_)
  obtain ⟨-, -, -, q4, -, -, q7, q8, q9, q10, q11, -, q13⟩ := lr_f h1
  exact c_X13_closingError q7 q8 q4.1 q9 q10 q11 (hf _) 
theorem lf_18 {G : jk_G} {n : Nat} {t : jk_T} {σ : jk_I} {ρ : jk_P} {N : Nat} {f : Nat → Int} {x m o d k : Nat} (hzl : zl_ok G N f) (hr : lr x m o d k n t σ ρ) (hk9 : k ≤ 512) : lc_F G yL_datum mL_datum [(0, 9, 12, 19), (0, 9, 15, 43)] 6 36 [.ref x, jI (f (5 * (k : Int) + 1).toNat), .ref o] yX13_datum mX13_datum [.ref m, jI (f (5 * (k : Int) + 1).toNat)] false x m o d k n t σ ρ := by
  obtain ⟨hz, hzx, hzv, hzp, hzn, ⟨hN, hf⟩, -⟩ := hzl
  obtain ⟨v, K, B, O, g, b, h, sv, Bf, L, P, Lo, hat, hb⟩ := hr
  obtain ⟨hx, hln, hrel, hall, hnn, hsi, hma, hmg, hmo, hmz, hmz1, hto, hJ⟩ := lr_f hat
  have hB := lr_B hat hb hk9
  have hc := md_q_da_c g (f (5 * (k : Int) + 1).toNat)
  refine lc_query hat hb (c := (md_q_da g (f (5 * (k : Int) + 1).toNat)).1) (val := (md_q_da g (f (5 * (k : Int) + 1).toNat)).2) (w_datum hzn hx (c_X12_datum hz hzx hln hrel hall hnn hsi (hf _)) (fun v' n' t' σ' ρ' hq => ⟨⟨_, hq.2.1⟩, by rw [hq.2.2.2.1]; exact hto⟩) (fun E n' t' σ' ρ' hx9 => ex_2c hx9.2.1)) (fun _ => rfl) (wq_k2 (by decide) hc) (jk_in0123 hc) (fun h => by cases h) (fun n' σ1 h1 => ?_)
  obtain ⟨-, -, -, q4, -, -, q7, q8, q9, q10, q11, -, q13⟩ := lr_f h1
  exact c_X13_datum q7 q8 q4.1 q9 q10 q11 (hf _) 
theorem lf_19 {G : jk_G} {n : Nat} {t : jk_T} {σ : jk_I} {ρ : jk_P} {N : Nat} {f : Nat → Int} {x m o d k : Nat} (hzl : zl_ok G N f) (hr : lr x m o d k n t σ ρ) (hk9 : k ≤ 512) : lc_F G yL_benchmarkByHeight mL_benchmarkByHeight [(0, 9, 12, 43)] 6 36 [.ref x, jI (f (5 * (k : Int) + 1).toNat), .ref o] yX13_benchmarkByHeight mX13_benchmarkByHeight [.ref m, jI (f (5 * (k : Int) + 1).toNat)] false x m o d k n t σ ρ := by
  obtain ⟨hz, hzx, hzv, hzp, hzn, ⟨hN, hf⟩, -⟩ := hzl
  obtain ⟨v, K, B, O, g, b, h, sv, Bf, L, P, Lo, hat, hb⟩ := hr
  obtain ⟨hx, hln, hrel, hall, hnn, hsi, hma, hmg, hmo, hmz, hmz1, hto, hJ⟩ := lr_f hat
  have hB := lr_B hat hb hk9
  have hc := md_q_bh_c g (f (5 * (k : Int) + 1).toNat)
  refine lc_query hat hb (c := (md_q_bh g (f (5 * (k : Int) + 1).toNat)).1) (val := (md_q_bh g (f (5 * (k : Int) + 1).toNat)).2) (w_benchmarkByHeight hzn hx (c_X12_benchmarkByHeight hz hzx hln hrel hall hnn hsi (hf _)) (fun v' n' t' σ' ρ' hq => ⟨⟨_, hq.2.1⟩, by rw [hq.2.2.2.1]; exact hto⟩) (fun E n' t' σ' ρ' hx9 => hx9.2.1)) (fun _ => rfl) (wq_k1 hc) (jk_in012 hc) (fun h => by cases h) (fun n' σ1 h1 => ?_)
  obtain ⟨-, -, -, q4, -, -, q7, q8, q9, q10, q11, -, q13⟩ := lr_f h1
  exact c_X13_benchmarkByHeight q7 q8 q4.1 q9 q10 q11 (hf _) 
theorem lf_21 {G : jk_G} {n : Nat} {t : jk_T} {σ : jk_I} {ρ : jk_P} {N : Nat} {f : Nat → Int} {x m o d k : Nat} (hzl : zl_ok G N f) (hr : lr x m o d k n t σ ρ) (hk9 : k ≤ 512) : lc_F G yL_firstOf mL_firstOf [(0, 9, 12, 19)] 6 36 [.ref x, jI (f (5 * (k : Int) + 1).toNat), .ref o] yX13_firstOf mX13_firstOf [.ref m, jI (f (5 * (k : Int) + 1).toNat)] false x m o d k n t σ ρ := by
  obtain ⟨hz, hzx, hzv, hzp, hzn, ⟨hN, hf⟩, -⟩ := hzl
  obtain ⟨v, K, B, O, g, b, h, sv, Bf, L, P, Lo, hat, hb⟩ := hr
  obtain ⟨hx, hln, hrel, hall, hnn, hsi, hma, hmg, hmo, hmz, hmz1, hto, hJ⟩ := lr_f hat
  have hB := lr_B hat hb hk9
  have hc := md_q_firstOf_c g (f (5 * (k : Int) + 1).toNat)
  refine lc_query hat hb (c := (md_q_firstOf g (f (5 * (k : Int) + 1).toNat)).1) (val := (md_q_firstOf g (f (5 * (k : Int) + 1).toNat)).2) (w_firstOf hzn hx (c_X12_firstOf hz hzx hln hrel hall hnn hsi (hf _)) (fun v' n' t' σ' ρ' hq => ⟨⟨_, hq.2.1⟩, by rw [hq.2.2.2.1]; exact hto⟩) (fun E n' t' σ' ρ' hx9 => hx9.2.1)) (fun _ => rfl) (wq_k1 hc) (jk_in012 hc) (fun h => by cases h) (fun n' σ1 h1 => ?_)
  obtain ⟨-, -, -, q4, -, -, q7, q8, q9, q10, q11, -, q13⟩ := lr_f h1
  exact c_X13_firstOf q7 q8 q4.1 q9 q10 q11 (hf _) 
theorem lf_22 {G : jk_G} {n : Nat} {t : jk_T} {σ : jk_I} {ρ : jk_P} {N : Nat} {f : Nat → Int} {x m o d k : Nat} (hzl : zl_ok G N f) (hr : lr x m o d k n t σ ρ) (hk9 : k ≤ 512) : lc_F G yL_secondOf mL_secondOf [(0, 9, 12, 19)] 6 36 [.ref x, jI (f (5 * (k : Int) + 1).toNat), .ref o] yX13_secondOf mX13_secondOf [.ref m, jI (f (5 * (k : Int) + 1).toNat)] false x m o d k n t σ ρ := by
  obtain ⟨hz, hzx, hzv, hzp, hzn, ⟨hN, hf⟩, -⟩ := hzl
  obtain ⟨v, K, B, O, g, b, h, sv, Bf, L, P, Lo, hat, hb⟩ := hr
  obtain ⟨hx, hln, hrel, hall, hnn, hsi, hma, hmg, hmo, hmz, hmz1, hto, hJ⟩ := lr_f hat
  have hB := lr_B hat hb hk9
  have hc := md_q_secondOf_c g (f (5 * (k : Int) + 1).toNat)
  refine lc_query hat hb (c := (md_q_secondOf g (f (5 * (k : Int) + 1).toNat)).1) (val := (md_q_secondOf g (f (5 * (k : Int) + 1).toNat)).2) (w_secondOf hzn hx (c_X12_secondOf hz hzx hln hrel hall hnn hsi (hf _)) (fun v' n' t' σ' ρ' hq => ⟨⟨_, hq.2.1⟩, by rw [hq.2.2.2.1]; exact hto⟩) (fun E n' t' σ' ρ' hx9 => hx9.2.1)) (fun _ => rfl) (wq_k1 hc) (jk_in012 hc) (fun h => by cases h) (fun n' σ1 h1 => ?_)
  obtain ⟨-, -, -, q4, -, -, q7, q8, q9, q10, q11, -, q13⟩ := lr_f h1
  exact c_X13_secondOf q7 q8 q4.1 q9 q10 q11 (hf _) 
theorem lf_23 {G : jk_G} {n : Nat} {t : jk_T} {σ : jk_I} {ρ : jk_P} {N : Nat} {f : Nat → Int} {x m o d k : Nat} (hzl : zl_ok G N f) (hr : lr x m o d k n t σ ρ) (hk9 : k ≤ 512) : lc_F G yL_lengthOf mL_lengthOf [(0, 9, 12, 19)] 6 36 [.ref x, jI (f (5 * (k : Int) + 1).toNat), .ref o] yX13_lengthOf mX13_lengthOf [.ref m, jI (f (5 * (k : Int) + 1).toNat)] false x m o d k n t σ ρ := by
  obtain ⟨hz, hzx, hzv, hzp, hzn, ⟨hN, hf⟩, -⟩ := hzl
  obtain ⟨v, K, B, O, g, b, h, sv, Bf, L, P, Lo, hat, hb⟩ := hr
  obtain ⟨hx, hln, hrel, hall, hnn, hsi, hma, hmg, hmo, hmz, hmz1, hto, hJ⟩ := lr_f hat
  have hB := lr_B hat hb hk9
  have hc := md_q_lengthOf_c g (f (5 * (k : Int) + 1).toNat)
  refine lc_query hat hb (c := (md_q_lengthOf g (f (5 * (k : Int) + 1).toNat)).1) (val := (md_q_lengthOf g (f (5 * (k : Int) + 1).toNat)).2) (w_lengthOf hzn hx (c_X12_lengthOf hz hzx hln hrel hall hnn hsi (hf _)) (fun v' n' t' σ' ρ' hq => ⟨⟨_, hq.2.1⟩, by rw [hq.2.2.2.1]; exact hto⟩) (fun E n' t' σ' ρ' hx9 => hx9.2.1)) (fun _ => rfl) (wq_k1 hc) (jk_in012 hc) (fun h => by cases h) (fun n' σ1 h1 => ?_)
  obtain ⟨-, -, -, q4, -, -, q7, q8, q9, q10, q11, -, q13⟩ := lr_f h1
  exact c_X13_lengthOf q7 q8 q4.1 q9 q10 q11 (hf _) 
theorem lf_24 {G : jk_G} {n : Nat} {t : jk_T} {σ : jk_I} {ρ : jk_P} {N : Nat} {f : Nat → Int} {x m o d k : Nat} (hzl : zl_ok G N f) (hr : lr x m o d k n t σ ρ) (hk9 : k ≤ 512) : lc_F G yL_levelledDifference mL_levelledDifference [(0, 9, 12, 19)] 6 36 [.ref x, jI (f (5 * (k : Int) + 1).toNat), .ref o] yX13_levelledDifference mX13_levelledDifference [.ref m, jI (f (5 * (k : Int) + 1).toNat)] false x m o d k n t σ ρ := by
  obtain ⟨hz, hzx, hzv, hzp, hzn, ⟨hN, hf⟩, -⟩ := hzl
  obtain ⟨v, K, B, O, g, b, h, sv, Bf, L, P, Lo, hat, hb⟩ := hr
  obtain ⟨hx, hln, hrel, hall, hnn, hsi, hma, hmg, hmo, hmz, hmz1, hto, hJ⟩ := lr_f hat
  have hB := lr_B hat hb hk9
  have hc := md_q_lv_c g (f (5 * (k : Int) + 1).toNat)
  refine lc_query hat hb (c := (md_q_lv g (f (5 * (k : Int) + 1).toNat)).1) (val := (md_q_lv g (f (5 * (k : Int) + 1).toNat)).2) (w_levelledDifference hzn hx (c_X12_levelledDifference hz hzx hln hrel hall hnn hsi (hf _)) (fun v' n' t' σ' ρ' hq => ⟨⟨_, hq.2.1⟩, by rw [hq.2.2.2.1]; exact hto⟩) (fun E n' t' σ' ρ' hx9 => hx9.2.1)) (fun _ => rfl) (wq_k1 hc) (jk_in012 hc) (fun h => by cases h) (fun n' σ1 h1 => ?_)
  obtain ⟨-, -, -, q4, -, -, q7, q8, q9, q10, q11, -, q13⟩ := lr_f h1
  exact c_X13_levelledDifference q7 q8 q4.1 q9 q10 q11 (hf _) 
theorem lf_25 {G : jk_G} {n : Nat} {t : jk_T} {σ : jk_I} {ρ : jk_P} {N : Nat} {f : Nat → Int} {x m o d k : Nat} (hzl : zl_ok G N f) (hr : lr x m o d k n t σ ρ) (hk9 : k ≤ 512) : lc_F G yL_correction mL_correction [(0, 9, 12, 19)] 6 36 [.ref x, jI (f (5 * (k : Int) + 1).toNat), .ref o] yX13_correction mX13_correction [.ref m, jI (f (5 * (k : Int) + 1).toNat)] false x m o d k n t σ ρ := by
  obtain ⟨hz, hzx, hzv, hzp, hzn, ⟨hN, hf⟩, -⟩ := hzl
  obtain ⟨v, K, B, O, g, b, h, sv, Bf, L, P, Lo, hat, hb⟩ := hr
  obtain ⟨hx, hln, hrel, hall, hnn, hsi, hma, hmg, hmo, hmz, hmz1, hto, hJ⟩ := lr_f hat
  have hB := lr_B hat hb hk9
  have hc := md_q_correction_c g (f (5 * (k : Int) + 1).toNat)
  refine lc_query hat hb (c := (md_q_correction g (f (5 * (k : Int) + 1).toNat)).1) (val := (md_q_correction g (f (5 * (k : Int) + 1).toNat)).2) (w_correction hzn hx (c_X12_correction hz hzx hln hrel hall hnn hsi (hf _)) (fun v' n' t' σ' ρ' hq => ⟨⟨_, hq.2.1⟩, by rw [hq.2.2.2.1]; exact hto⟩) (fun E n' t' σ' ρ' hx9 => hx9.2.1)) (fun _ => rfl) (wq_k1 hc) (jk_in012 hc) (fun h => by cases h) (fun n' σ1 h1 => ?_)
  obtain ⟨-, -, -, q4, -, -, q7, q8, q9, q10, q11, -, q13⟩ := lr_f h1
  exact c_X13_correction q7 q8 q4.1 q9 q10 q11 (hf _) 
theorem lf_26 {G : jk_G} {n : Nat} {t : jk_T} {σ : jk_I} {ρ : jk_P} {N : Nat} {f : Nat → Int} {x m o d k : Nat} (hzl : zl_ok G N f) (hr : lr x m o d k n t σ ρ) (hk9 : k ≤ 512) : lc_F G yL_discrepancy mL_discrepancy [(0, 9, 12, 19), (0, 9, 15, 43)] 6 36 [.ref x, jI (f (5 * (k : Int) + 1).toNat), .ref o] yX13_discrepancy mX13_discrepancy [.ref m, jI (f (5 * (k : Int) + 1).toNat)] false x m o d k n t σ ρ := by
  obtain ⟨hz, hzx, hzv, hzp, hzn, ⟨hN, hf⟩, -⟩ := hzl
  obtain ⟨v, K, B, O, g, b, h, sv, Bf, L, P, Lo, hat, hb⟩ := hr
  obtain ⟨hx, hln, hrel, hall, hnn, hsi, hma, hmg, hmo, hmz, hmz1, hto, hJ⟩ := lr_f hat
  have hB := lr_B hat hb hk9
  have hc := md_q_di_c g (f (5 * (k : Int) + 1).toNat)
  refine lc_query hat hb (c := (md_q_di g (f (5 * (k : Int) + 1).toNat)).1) (val := (md_q_di g (f (5 * (k : Int) + 1).toNat)).2) (w_discrepancy hzn hx (c_X12_discrepancy hz hzx hln hrel hall hnn hsi (hf _)) (fun v' n' t' σ' ρ' hq => ⟨⟨_, hq.2.1⟩, by rw [hq.2.2.2.1]; exact hto⟩) (fun E n' t' σ' ρ' hx9 => ex_2c hx9.2.1)) (fun _ => rfl) (wq_k2 (by decide) hc) (jk_in0123 hc) (fun h => by cases h) (fun n' σ1 h1 => ?_)
  obtain ⟨-, -, -, q4, -, -, q7, q8, q9, q10, q11, -, q13⟩ := lr_f h1
  exact c_X13_discrepancy q7 q8 q4.1 q9 q10 q11 (hf _) 
theorem lf_27 {G : jk_G} {n : Nat} {t : jk_T} {σ : jk_I} {ρ : jk_P} {N : Nat} {f : Nat → Int} {x m o d k : Nat} (hzl : zl_ok G N f) (hr : lr x m o d k n t σ ρ) (hk9 : k ≤ 512) : lc_F G yL_isExcluded mL_isExcluded [(0, 16, 19, 19)] 6 36 [.ref x, jI (f (5 * (k : Int) + 1).toNat), .ref o] yX13_isExcluded mX13_isExcluded [.ref m, jI (f (5 * (k : Int) + 1).toNat)] true x m o d k n t σ ρ := by
  obtain ⟨hz, hzx, hzv, hzp, hzn, ⟨hN, hf⟩, -⟩ := hzl
  obtain ⟨v, K, B, O, g, b, h, sv, Bf, L, P, Lo, hat, hb⟩ := hr
  obtain ⟨hx, hln, hrel, hall, hnn, hsi, hma, hmg, hmo, hmz, hmz1, hto, hJ⟩ := lr_f hat
  have hB := lr_B hat hb hk9
  have hc := md_q_ex_c g (f (5 * (k : Int) + 1).toNat)
  refine lc_query hat hb (c := (md_q_ex g (f (5 * (k : Int) + 1).toNat)).1) (val := jB (md_q_ex g (f (5 * (k : Int) + 1).toNat)).2) (w_isExcluded hzn hx (c_X12_isExcluded hz hzx hln hrel hall hnn hsi (hf _)) (fun v' n' t' σ' ρ' hq => ⟨⟨_, hq.2.1⟩, by rw [hq.2.2.2.1]; exact hto⟩) (fun E n' t' σ' ρ' hx9 => hx9.2.1)) (fun _ => rfl) (wq_k1 hc) (jk_in012 hc) (fun _ => ⟨_, rfl⟩) (fun n' σ1 h1 => ?_)
  obtain ⟨-, -, -, q4, -, -, q7, q8, q9, q10, q11, -, q13⟩ := lr_f h1
  exact c_X13_isExcluded q7 q8 q4.1 q9 q10 q11 (hf _) 
theorem lf_28 {G : jk_G} {n : Nat} {t : jk_T} {σ : jk_I} {ρ : jk_P} {N : Nat} {f : Nat → Int} {x m o d k : Nat} (hzl : zl_ok G N f) (hr : lr x m o d k n t σ ρ) (hk9 : k ≤ 512) : lc_F G yL_isUsable mL_isUsable [(0, 16, 19, 19)] 6 36 [.ref x, jI (f (5 * (k : Int) + 1).toNat), .ref o] yX13_isUsable mX13_isUsable [.ref m, jI (f (5 * (k : Int) + 1).toNat)] true x m o d k n t σ ρ := by
  obtain ⟨hz, hzx, hzv, hzp, hzn, ⟨hN, hf⟩, -⟩ := hzl
  obtain ⟨v, K, B, O, g, b, h, sv, Bf, L, P, Lo, hat, hb⟩ := hr
  obtain ⟨hx, hln, hrel, hall, hnn, hsi, hma, hmg, hmo, hmz, hmz1, hto, hJ⟩ := lr_f hat
  have hB := lr_B hat hb hk9
  have hc := md_q_us_c g (f (5 * (k : Int) + 1).toNat)
  refine lc_query hat hb (c := (md_q_us g (f (5 * (k : Int) + 1).toNat)).1) (val := jB (md_q_us g (f (5 * (k : Int) + 1).toNat)).2) (w_isUsable hzn hx (c_X12_isUsable hz hzx hln hrel hall hnn hsi (hf _)) (fun v' n' t' σ' ρ' hq => ⟨⟨_, hq.2.1⟩, by rw [hq.2.2.2.1]; exact hto⟩) (fun E n' t' σ' ρ' hx9 => hx9.2.1)) (fun _ => rfl) (wq_k1 hc) (jk_in012 hc) (fun _ => ⟨_, rfl⟩) (fun n' σ1 h1 => ?_)
  obtain ⟨-, -, -, q4, -, -, q7, q8, q9, q10, q11, -, q13⟩ := lr_f h1
  exact c_X13_isUsable q7 q8 q4.1 q9 q10 q11 (hf _) 
theorem lf_29 {G : jk_G} {n : Nat} {t : jk_T} {σ : jk_I} {ρ : jk_P} {N : Nat} {f : Nat → Int} {x m o d k : Nat} (hzl : zl_ok G N f) (hr : lr x m o d k n t σ ρ) (hk9 : k ≤ 512) : lc_F G yL_tolerance mL_tolerance [(0, 9, 12, 21)] 6 36 [.ref x, jI (f (5 * (k : Int) + 1).toNat), .ref o] yX13_tolerance mX13_tolerance [.ref m, jI (f (5 * (k : Int) + 1).toNat)] false x m o d k n t σ ρ := by
  obtain ⟨hz, hzx, hzv, hzp, hzn, ⟨hN, hf⟩, -⟩ := hzl
  obtain ⟨v, K, B, O, g, b, h, sv, Bf, L, P, Lo, hat, hb⟩ := hr
  obtain ⟨hx, hln, hrel, hall, hnn, hsi, hma, hmg, hmo, hmz, hmz1, hto, hJ⟩ := lr_f hat
  have hB := lr_B hat hb hk9
  have hc := md_q_to_c g (f (5 * (k : Int) + 1).toNat)
  refine lc_query hat hb (c := (md_q_to g (f (5 * (k : Int) + 1).toNat)).1) (val := (md_q_to g (f (5 * (k : Int) + 1).toNat)).2) (w_tolerance hzn hx (c_X12_tolerance hz hzx hln hrel hall hnn hsi (hf _)) (fun v' n' t' σ' ρ' hq => ⟨⟨_, hq.2.1⟩, by rw [hq.2.2.2.1]; exact hto⟩) (fun E n' t' σ' ρ' hx9 => hx9.2.1)) (fun _ => rfl) (wq_k1 hc) (jk_in012 hc) (fun h => by cases h) (fun n' σ1 h1 => ?_)
  obtain ⟨-, -, -, q4, -, -, q7, q8, q9, q10, q11, -, q13⟩ := lr_f h1
  exact c_X13_tolerance q7 q8 q4.1 q9 q10 q11 (hf _) 
theorem lf_30 {G : jk_G} {n : Nat} {t : jk_T} {σ : jk_I} {ρ : jk_P} {N : Nat} {f : Nat → Int} {x m o d k : Nat} (hzl : zl_ok G N f) (hr : lr x m o d k n t σ ρ) (hk9 : k ≤ 512) : lc_F G yL_lineByDiscrepancy mL_lineByDiscrepancy [(0, 9, 12, 43)] 6 36 [.ref x, jI (f (5 * (k : Int) + 1).toNat), .ref o] yX13_lineByDiscrepancy mX13_lineByDiscrepancy [.ref m, jI (f (5 * (k : Int) + 1).toNat)] false x m o d k n t σ ρ := by
  obtain ⟨hz, hzx, hzv, hzp, hzn, ⟨hN, hf⟩, -⟩ := hzl
  obtain ⟨v, K, B, O, g, b, h, sv, Bf, L, P, Lo, hat, hb⟩ := hr
  obtain ⟨hx, hln, hrel, hall, hnn, hsi, hma, hmg, hmo, hmz, hmz1, hto, hJ⟩ := lr_f hat
  have hB := lr_B hat hb hk9
  have hc := md_q_ld_c g (f (5 * (k : Int) + 1).toNat)
  refine lc_query hat hb (c := (md_q_ld g (f (5 * (k : Int) + 1).toNat)).1) (val := (md_q_ld g (f (5 * (k : Int) + 1).toNat)).2) (w_lineByDiscrepancy hzn hx (c_X12_lineByDiscrepancy hz hzx hln hrel hall hnn hsi (hf _)) (fun v' n' t' σ' ρ' hq => ⟨⟨_, hq.2.1⟩, by rw [hq.2.2.2.1]; exact hto⟩) (fun E n' t' σ' ρ' hx9 => hx9.2.1)) (fun _ => rfl) (wq_k1 hc) (jk_in012 hc) (fun h => by cases h) (fun n' σ1 h1 => ?_)
  obtain ⟨-, -, -, q4, -, -, q7, q8, q9, q10, q11, -, q13⟩ := lr_f h1
  exact c_X13_lineByDiscrepancy q7 q8 q4.1 q9 q10 q11 (hf _) 
theorem lf_31 {G : jk_G} {n : Nat} {t : jk_T} {σ : jk_I} {ρ : jk_P} {N : Nat} {f : Nat → Int} {x m o d k : Nat} (hzl : zl_ok G N f) (hr : lr x m o d k n t σ ρ) (hk9 : k ≤ 512) : lc_F G yL_isInForest mL_isInForest [(0, 16, 19, 19)] 6 36 [.ref x, jI (f (5 * (k : Int) + 1).toNat), .ref o] yX13_isInForest mX13_isInForest [.ref m, jI (f (5 * (k : Int) + 1).toNat)] true x m o d k n t σ ρ := by
  obtain ⟨hz, hzx, hzv, hzp, hzn, ⟨hN, hf⟩, -⟩ := hzl
  obtain ⟨v, K, B, O, g, b, h, sv, Bf, L, P, Lo, hat, hb⟩ := hr
  obtain ⟨hx, hln, hrel, hall, hnn, hsi, hma, hmg, hmo, hmz, hmz1, hto, hJ⟩ := lr_f hat
  have hB := lr_B hat hb hk9
  have hc := md_q_if_c g (f (5 * (k : Int) + 1).toNat)
  refine lc_query hat hb (c := (md_q_if g (f (5 * (k : Int) + 1).toNat)).1) (val := jB (md_q_if g (f (5 * (k : Int) + 1).toNat)).2) (w_isInForest hzn hx (c_X12_isInForest hz hzx hln hrel hall hnn hsi (hf _)) (fun v' n' t' σ' ρ' hq => ⟨⟨_, hq.2.1⟩, by rw [hq.2.2.2.1]; exact hto⟩) (fun E n' t' σ' ρ' hx9 => hx9.2.1)) (fun _ => rfl) (wq_k1 hc) (jk_in012 hc) (fun _ => ⟨_, rfl⟩) (fun n' σ1 h1 => ?_)
  obtain ⟨-, -, -, q4, -, -, q7, q8, q9, q10, q11, -, q13⟩ := lr_f h1
  exact c_X13_isInForest q7 q8 q4.1 q9 q10 q11 (hf _) 
theorem lf_36 {G : jk_G} {n : Nat} {t : jk_T} {σ : jk_I} {ρ : jk_P} {N : Nat} {f : Nat → Int} {x m o d k : Nat} (hzl : zl_ok G N f) (hr : lr x m o d k n t σ ρ) (hk9 : k ≤ 512) : lc_F G yL_loopAt mL_loopAt [(0, 9, 12, 43)] 6 36 [.ref x, jI (f (5 * (k : Int) + 1).toNat), .ref o] yX13_loopAt mX13_loopAt [.ref m, jI (f (5 * (k : Int) + 1).toNat)] false x m o d k n t σ ρ := by
  obtain ⟨hz, hzx, hzv, hzp, hzn, ⟨hN, hf⟩, -⟩ := hzl
  obtain ⟨v, K, B, O, g, b, h, sv, Bf, L, P, Lo, hat, hb⟩ := hr
  obtain ⟨hx, hln, hrel, hall, hnn, hsi, hma, hmg, hmo, hmz, hmz1, hto, hJ⟩ := lr_f hat
  have hB := lr_B hat hb hk9
  have hc := md_q_la_c g (f (5 * (k : Int) + 1).toNat)
  refine lc_query hat hb (c := (md_q_la g (f (5 * (k : Int) + 1).toNat)).1) (val := (md_q_la g (f (5 * (k : Int) + 1).toNat)).2) (w_loopAt hzn hx (c_X12_loopAt hz hzx hln hrel hall hnn hsi (hf _)) (fun v' n' t' σ' ρ' hq => ⟨⟨_, hq.2.1⟩, by rw [hq.2.2.2.1]; exact hto⟩) (fun E n' t' σ' ρ' hx9 => hx9.2.1)) (fun _ => rfl) (wq_k1 hc) (jk_in012 hc) (fun h => by cases h) (fun n' σ1 h1 => ?_)
  obtain ⟨-, -, -, q4, -, -, q7, q8, q9, q10, q11, -, q13⟩ := lr_f h1
  exact c_X13_loopAt q7 q8 q4.1 q9 q10 q11 (hf _) 
theorem lf_37 {G : jk_G} {n : Nat} {t : jk_T} {σ : jk_I} {ρ : jk_P} {N : Nat} {f : Nat → Int} {x m o d k : Nat} (hzl : zl_ok G N f) (hr : lr x m o d k n t σ ρ) (hk9 : k ≤ 512) : lc_F G yL_loopSize mL_loopSize [(0, 9, 12, 19), (0, 9, 15, 43)] 6 36 [.ref x, jI (f (5 * (k : Int) + 1).toNat), .ref o] yX13_loopSize mX13_loopSize [.ref m, jI (f (5 * (k : Int) + 1).toNat)] false x m o d k n t σ ρ := by
  obtain ⟨hz, hzx, hzv, hzp, hzn, ⟨hN, hf⟩, -⟩ := hzl
  obtain ⟨v, K, B, O, g, b, h, sv, Bf, L, P, Lo, hat, hb⟩ := hr
  obtain ⟨hx, hln, hrel, hall, hnn, hsi, hma, hmg, hmo, hmz, hmz1, hto, hJ⟩ := lr_f hat
  have hB := lr_B hat hb hk9
  have hc := md_q_ls_c g (f (5 * (k : Int) + 1).toNat)
  refine lc_query hat hb (c := (md_q_ls g (f (5 * (k : Int) + 1).toNat)).1) (val := (md_q_ls g (f (5 * (k : Int) + 1).toNat)).2) (w_loopSize hzn hx (c_X12_loopSize hz hzx hln hrel hall hnn hsi (hf _)) (fun v' n' t' σ' ρ' hq => ⟨⟨_, hq.2.1⟩, by rw [hq.2.2.2.1]; exact hto⟩) (fun E n' t' σ' ρ' hx9 => ex_2c hx9.2.1)) (fun _ => rfl) (wq_k2 (by decide) hc) (jk_in0123 hc) (fun h => by cases h) (fun n' σ1 h1 => ?_)
  obtain ⟨-, -, -, q4, -, -, q7, q8, q9, q10, q11, -, q13⟩ := lr_f h1
  exact c_X13_loopSize q7 q8 q4.1 q9 q10 q11 (hf _) q13
theorem lf_38 {G : jk_G} {n : Nat} {t : jk_T} {σ : jk_I} {ρ : jk_P} {N : Nat} {f : Nat → Int} {x m o d k : Nat} (hzl : zl_ok G N f) (hr : lr x m o d k n t σ ρ) (hk9 : k ≤ 512) : lc_F G yL_loopLength mL_loopLength [(0, 9, 12, 19), (0, 9, 15, 43)] 6 36 [.ref x, jI (f (5 * (k : Int) + 1).toNat), .ref o] yX13_loopLength mX13_loopLength [.ref m, jI (f (5 * (k : Int) + 1).toNat)] false x m o d k n t σ ρ := by
  obtain ⟨hz, hzx, hzv, hzp, hzn, ⟨hN, hf⟩, -⟩ := hzl
  obtain ⟨v, K, B, O, g, b, h, sv, Bf, L, P, Lo, hat, hb⟩ := hr
  obtain ⟨hx, hln, hrel, hall, hnn, hsi, hma, hmg, hmo, hmz, hmz1, hto, hJ⟩ := lr_f hat
  have hB := lr_B hat hb hk9
  have hc := md_q_ll_c g (f (5 * (k : Int) + 1).toNat)
  refine lc_query hat hb (c := (md_q_ll g (f (5 * (k : Int) + 1).toNat)).1) (val := (md_q_ll g (f (5 * (k : Int) + 1).toNat)).2) (w_loopLength hzn hx (c_X12_loopLength hz hzx hln hrel hall hnn hsi (hf _)) (fun v' n' t' σ' ρ' hq => ⟨⟨_, hq.2.1⟩, by rw [hq.2.2.2.1]; exact hto⟩) (fun E n' t' σ' ρ' hx9 => ex_2c hx9.2.1)) (fun _ => rfl) (wq_k2 (by decide) hc) (jk_in0123 hc) (fun h => by cases h) (fun n' σ1 h1 => ?_)
  obtain ⟨-, -, -, q4, -, -, q7, q8, q9, q10, q11, -, q13⟩ := lr_f h1
  exact c_X13_loopLength q7 q8 q4.1 q9 q10 q11 (hf _) q13
theorem lf_39 {G : jk_G} {n : Nat} {t : jk_T} {σ : jk_I} {ρ : jk_P} {N : Nat} {f : Nat → Int} {x m o d k : Nat} (hzl : zl_ok G N f) (hr : lr x m o d k n t σ ρ) (hk9 : k ≤ 512) : lc_F G yL_misclosure mL_misclosure [(0, 9, 12, 19), (0, 9, 15, 43)] 6 36 [.ref x, jI (f (5 * (k : Int) + 1).toNat), .ref o] yX13_misclosure mX13_misclosure [.ref m, jI (f (5 * (k : Int) + 1).toNat)] false x m o d k n t σ ρ := by
  obtain ⟨hz, hzx, hzv, hzp, hzn, ⟨hN, hf⟩, -⟩ := hzl
  obtain ⟨v, K, B, O, g, b, h, sv, Bf, L, P, Lo, hat, hb⟩ := hr
  obtain ⟨hx, hln, hrel, hall, hnn, hsi, hma, hmg, hmo, hmz, hmz1, hto, hJ⟩ := lr_f hat
  have hB := lr_B hat hb hk9
  have hc := md_q_mc_c g (f (5 * (k : Int) + 1).toNat)
  refine lc_query hat hb (c := (md_q_mc g (f (5 * (k : Int) + 1).toNat)).1) (val := (md_q_mc g (f (5 * (k : Int) + 1).toNat)).2) (w_misclosure hzn hx (c_X12_misclosure hz hzx hln hrel hall hnn hsi (hf _)) (fun v' n' t' σ' ρ' hq => ⟨⟨_, hq.2.1⟩, by rw [hq.2.2.2.1]; exact hto⟩) (fun E n' t' σ' ρ' hx9 => ex_2c hx9.2.1)) (fun _ => rfl) (wq_k2 (by decide) hc) (jk_in0123 hc) (fun h => by cases h) (fun n' σ1 h1 => ?_)
  obtain ⟨-, -, -, q4, -, -, q7, q8, q9, q10, q11, -, q13⟩ := lr_f h1
  exact c_X13_misclosure q7 q8 q4.1 q9 q10 q11 (hf _) q13
theorem lf_40 {G : jk_G} {n : Nat} {t : jk_T} {σ : jk_I} {ρ : jk_P} {N : Nat} {f : Nat → Int} {x m o d k : Nat} (hzl : zl_ok G N f) (hr : lr x m o d k n t σ ρ) (hk9 : k ≤ 512) : lc_F G yL_misclosureByLevels mL_misclosureByLevels [(0, 9, 12, 19), (0, 9, 15, 43)] 6 36 [.ref x, jI (f (5 * (k : Int) + 1).toNat), .ref o] yX13_misclosureByLevels mX13_misclosureByLevels [.ref m, jI (f (5 * (k : Int) + 1).toNat)] false x m o d k n t σ ρ := by
  obtain ⟨hz, hzx, hzv, hzp, hzn, ⟨hN, hf⟩, -⟩ := hzl
  obtain ⟨v, K, B, O, g, b, h, sv, Bf, L, P, Lo, hat, hb⟩ := hr
  obtain ⟨hx, hln, hrel, hall, hnn, hsi, hma, hmg, hmo, hmz, hmz1, hto, hJ⟩ := lr_f hat
  have hB := lr_B hat hb hk9
  have hc := md_q_mc_c g (f (5 * (k : Int) + 1).toNat)
  refine lc_query hat hb (c := (md_q_mc g (f (5 * (k : Int) + 1).toNat)).1) (val := (md_q_mc g (f (5 * (k : Int) + 1).toNat)).2) (w_misclosureByLevels hzn hx (c_X12_misclosureByLevels hz hzx hln hrel hall hnn hsi (hf _)) (fun v' n' t' σ' ρ' hq => ⟨⟨_, hq.2.1⟩, by rw [hq.2.2.2.1]; exact hto⟩) (fun E n' t' σ' ρ' hx9 => ex_2c hx9.2.1)) (fun _ => rfl) (wq_k2 (by decide) hc) (jk_in0123 hc) (fun h => by cases h) (fun n' σ1 h1 => ?_)
  obtain ⟨-, -, -, q4, -, -, q7, q8, q9, q10, q11, -, q13⟩ := lr_f h1
  exact c_X13_misclosureByLevels q7 q8 q4.1 q9 q10 q11 (hf _) q13
theorem lf_41 {G : jk_G} {n : Nat} {t : jk_T} {σ : jk_I} {ρ : jk_P} {N : Nat} {f : Nat → Int} {x m o d k : Nat} (hzl : zl_ok G N f) (hr : lr x m o d k n t σ ρ) (hk9 : k ≤ 512) : lc_F G yL_part mL_part [(0, 10, 13, 19), (0, 10, 17, 43)] 6 36 [.ref x, jI (f (5 * (k : Int) + 1).toNat), jI (f (5 * (k : Int) + 2).toNat), .ref o] yX13_part mX13_part [.ref m, jI (f (5 * (k : Int) + 1).toNat), jI (f (5 * (k : Int) + 2).toNat)] false x m o d k n t σ ρ := by
  obtain ⟨hz, hzx, hzv, hzp, hzn, ⟨hN, hf⟩, -⟩ := hzl
  obtain ⟨v, K, B, O, g, b, h, sv, Bf, L, P, Lo, hat, hb⟩ := hr
  obtain ⟨hx, hln, hrel, hall, hnn, hsi, hma, hmg, hmo, hmz, hmz1, hto, hJ⟩ := lr_f hat
  have hB := lr_B hat hb hk9
  have hc := md_q_pt_c g (f (5 * (k : Int) + 1).toNat) (f (5 * (k : Int) + 2).toNat)
  refine lc_query hat hb (c := (md_q_pt g (f (5 * (k : Int) + 1).toNat) (f (5 * (k : Int) + 2).toNat)).1) (val := (md_q_pt g (f (5 * (k : Int) + 1).toNat) (f (5 * (k : Int) + 2).toNat)).2) (w_part hzn hx (c_X12_part hz hzx hln hrel hall hnn hsi (hf _) (hf _)) (fun v' n' t' σ' ρ' hq => ⟨⟨_, hq.2.1⟩, by rw [hq.2.2.2.1]; exact hto⟩) (fun E n' t' σ' ρ' hx9 => ex_2c hx9.2.1)) (fun _ => rfl) (wq_k2 (by decide) hc) (jk_in0123 hc) (fun h => by cases h) (fun n' σ1 h1 => ?_)
  obtain ⟨-, -, -, q4, -, -, q7, q8, q9, q10, q11, -, q13⟩ := lr_f h1
  exact c_X13_part q7 q8 q4.1 q9 q10 q11 (hf _) (hf _) q13 q4.2.1
theorem lf_43 {G : jk_G} {n : Nat} {t : jk_T} {σ : jk_I} {ρ : jk_P} {N : Nat} {f : Nat → Int} {x m o d k : Nat} (hzl : zl_ok G N f) (hr : lr x m o d k n t σ ρ) (hk9 : k ≤ 512) : lc_F G yL_stationCount mL_stationCount [(0, 9, 12, 19)] 6 36 [.ref x, jI (f (5 * (k : Int) + 1).toNat), .ref o] yX13_stationCount mX13_stationCount [.ref m, jI (f (5 * (k : Int) + 1).toNat)] false x m o d k n t σ ρ := by
  obtain ⟨hz, hzx, hzv, hzp, hzn, ⟨hN, hf⟩, -⟩ := hzl
  obtain ⟨v, K, B, O, g, b, h, sv, Bf, L, P, Lo, hat, hb⟩ := hr
  obtain ⟨hx, hln, hrel, hall, hnn, hsi, hma, hmg, hmo, hmz, hmz1, hto, hJ⟩ := lr_f hat
  have hB := lr_B hat hb hk9
  have hc := md_q_st_c g (f (5 * (k : Int) + 1).toNat)
  refine lc_query hat hb (c := (md_q_st g (f (5 * (k : Int) + 1).toNat)).1) (val := (md_q_st g (f (5 * (k : Int) + 1).toNat)).2) (w_stationCount hzn hx (c_X12_stationCount hz hzx hln hrel hall hnn hsi (hf _)) (fun v' n' t' σ' ρ' hq => ⟨⟨_, hq.2.1⟩, by rw [hq.2.2.2.1]; exact hto⟩) (fun E n' t' σ' ρ' hx9 => hx9.2.1)) (fun _ => rfl) (wq_k1 hc) (jk_in012 hc) (fun h => by cases h) (fun n' σ1 h1 => ?_)
  obtain ⟨-, -, -, q4, -, -, q7, q8, q9, q10, q11, -, q13⟩ := lr_f h1
  exact c_X13_stationCount q7 q8 q4.1 q9 q10 q11 (hf _) 
theorem lf_45 {G : jk_G} {n : Nat} {t : jk_T} {σ : jk_I} {ρ : jk_P} {N : Nat} {f : Nat → Int} {x m o d k : Nat} (hzl : zl_ok G N f) (hr : lr x m o d k n t σ ρ) (hk9 : k ≤ 512) : lc_F G yL_ground mL_ground [(0, 10, 13, 19), (0, 10, 17, 21), (0, 10, 21, 43)] 6 36 [.ref x, jI (f (5 * (k : Int) + 1).toNat), jI (f (5 * (k : Int) + 2).toNat), .ref o] yX13_ground mX13_ground [.ref m, jI (f (5 * (k : Int) + 1).toNat), jI (f (5 * (k : Int) + 2).toNat)] false x m o d k n t σ ρ := by
  obtain ⟨hz, hzx, hzv, hzp, hzn, ⟨hN, hf⟩, -⟩ := hzl
  obtain ⟨v, K, B, O, g, b, h, sv, Bf, L, P, Lo, hat, hb⟩ := hr
  obtain ⟨hx, hln, hrel, hall, hnn, hsi, hma, hmg, hmo, hmz, hmz1, hto, hJ⟩ := lr_f hat
  have hB := lr_B hat hb hk9
  have hc := md_q_gr_c g (f (5 * (k : Int) + 1).toNat) (f (5 * (k : Int) + 2).toNat)
  refine lc_query hat hb (c := (md_q_gr g (f (5 * (k : Int) + 1).toNat) (f (5 * (k : Int) + 2).toNat)).1) (val := (md_q_gr g (f (5 * (k : Int) + 1).toNat) (f (5 * (k : Int) + 2).toNat)).2) (w_ground hzn hx (c_X12_ground hz hzx hln hrel hall hnn hsi (hf _) (hf _)) (fun v' n' t' σ' ρ' hq => ⟨⟨_, hq.2.1⟩, by rw [hq.2.2.2.1]; exact hto⟩) (fun E n' t' σ' ρ' hx9 => ex_3c hx9.2.1)) (fun _ => rfl) (wq_k3 (by decide) (by decide) (by decide) hc) (jk_in3 hc) (fun h => by cases h) (fun n' σ1 h1 => ?_)
  obtain ⟨-, -, -, q4, -, -, q7, q8, q9, q10, q11, -, q13⟩ := lr_f h1
  exact c_X13_ground q7 q8 q4.1 q9 q10 q11 (hf _) (hf _) q4.2.2.1
theorem lf_46 {G : jk_G} {n : Nat} {t : jk_T} {σ : jk_I} {ρ : jk_P} {N : Nat} {f : Nat → Int} {x m o d k : Nat} (hzl : zl_ok G N f) (hr : lr x m o d k n t σ ρ) (hk9 : k ≤ 512) : lc_F G yL_wetColumns mL_wetColumns [(0, 9, 12, 19), (0, 9, 15, 43)] 6 36 [.ref x, jI (f (5 * (k : Int) + 1).toNat), .ref o] yX13_wetColumns mX13_wetColumns [.ref m, jI (f (5 * (k : Int) + 1).toNat)] false x m o d k n t σ ρ := by
  obtain ⟨hz, hzx, hzv, hzp, hzn, ⟨hN, hf⟩, -⟩ := hzl
  obtain ⟨v, K, B, O, g, b, h, sv, Bf, L, P, Lo, hat, hb⟩ := hr
  obtain ⟨hx, hln, hrel, hall, hnn, hsi, hma, hmg, hmo, hmz, hmz1, hto, hJ⟩ := lr_f hat
  have hB := lr_B hat hb hk9
  have hc := md_q_wc_c g (f (5 * (k : Int) + 1).toNat)
  refine lc_query hat hb (c := (md_q_wc g (f (5 * (k : Int) + 1).toNat)).1) (val := (md_q_wc g (f (5 * (k : Int) + 1).toNat)).2) (w_wetColumns hzn hx (c_X12_wetColumns hz hzx hln hrel hall hnn hsi (by omega) (hf _)) (fun v' n' t' σ' ρ' hq => ⟨⟨_, hq.2.1⟩, by rw [hq.2.2.2.1]; exact hto⟩) (fun E n' t' σ' ρ' hx9 => ex_2c hx9.2.1)) (fun _ => rfl) (wq_k2 (by decide) hc) (jk_in0123 hc) (fun h => by cases h) (fun n' σ1 h1 => ?_)
  obtain ⟨-, -, -, q4, -, -, q7, q8, q9, q10, q11, -, q13⟩ := lr_f h1
  exact c_X13_wetColumns q7 q8 q4.1 q9 q10 q11 (hf _) q4.2.2.1
theorem lf_47 {G : jk_G} {n : Nat} {t : jk_T} {σ : jk_I} {ρ : jk_P} {N : Nat} {f : Nat → Int} {x m o d k : Nat} (hzl : zl_ok G N f) (hr : lr x m o d k n t σ ρ) (hk9 : k ≤ 512) : lc_F G yL_wetColumnsBySegments mL_wetColumnsBySegments [(0, 9, 12, 19), (0, 9, 15, 43)] 6 36 [.ref x, jI (f (5 * (k : Int) + 1).toNat), .ref o] yX13_wetColumnsBySegments mX13_wetColumnsBySegments [.ref m, jI (f (5 * (k : Int) + 1).toNat)] false x m o d k n t σ ρ := by
  obtain ⟨hz, hzx, hzv, hzp, hzn, ⟨hN, hf⟩, -⟩ := hzl
  obtain ⟨v, K, B, O, g, b, h, sv, Bf, L, P, Lo, hat, hb⟩ := hr
  obtain ⟨hx, hln, hrel, hall, hnn, hsi, hma, hmg, hmo, hmz, hmz1, hto, hJ⟩ := lr_f hat
  have hB := lr_B hat hb hk9
  have hc := md_q_wc_c g (f (5 * (k : Int) + 1).toNat)
  refine lc_query hat hb (c := (md_q_wc g (f (5 * (k : Int) + 1).toNat)).1) (val := (md_q_wc g (f (5 * (k : Int) + 1).toNat)).2) (w_wetColumnsBySegments hzn hx (c_X12_wetColumnsBySegments hz hzx hln hrel hall hnn hsi (by omega) (hf _)) (fun v' n' t' σ' ρ' hq => ⟨⟨_, hq.2.1⟩, by rw [hq.2.2.2.1]; exact hto⟩) (fun E n' t' σ' ρ' hx9 => ex_2c hx9.2.1)) (fun _ => rfl) (wq_k2 (by decide) hc) (jk_in0123 hc) (fun h => by cases h) (fun n' σ1 h1 => ?_)
  obtain ⟨-, -, -, q4, -, -, q7, q8, q9, q10, q11, -, q13⟩ := lr_f h1
  exact c_X13_wetColumnsBySegments q7 q8 q4.1 q9 q10 q11 (hf _) q4.2.2.1
theorem lf_48 {G : jk_G} {n : Nat} {t : jk_T} {σ : jk_I} {ρ : jk_P} {N : Nat} {f : Nat → Int} {x m o d k : Nat} (hzl : zl_ok G N f) (hr : lr x m o d k n t σ ρ) (hk9 : k ≤ 512) : lc_F G yL_shores mL_shores [(0, 9, 12, 19), (0, 9, 15, 43)] 6 36 [.ref x, jI (f (5 * (k : Int) + 1).toNat), .ref o] yX13_shores mX13_shores [.ref m, jI (f (5 * (k : Int) + 1).toNat)] false x m o d k n t σ ρ := by
  obtain ⟨hz, hzx, hzv, hzp, hzn, ⟨hN, hf⟩, -⟩ := hzl
  obtain ⟨v, K, B, O, g, b, h, sv, Bf, L, P, Lo, hat, hb⟩ := hr
  obtain ⟨hx, hln, hrel, hall, hnn, hsi, hma, hmg, hmo, hmz, hmz1, hto, hJ⟩ := lr_f hat
  have hB := lr_B hat hb hk9
  have hc := md_q_sh_c g (f (5 * (k : Int) + 1).toNat)
  refine lc_query hat hb (c := (md_q_sh g (f (5 * (k : Int) + 1).toNat)).1) (val := (md_q_sh g (f (5 * (k : Int) + 1).toNat)).2) (w_shores hzn hx (c_X12_shores hz hzx hln hrel hall hnn hsi (by omega) (hf _)) (fun v' n' t' σ' ρ' hq => ⟨⟨_, hq.2.1⟩, by rw [hq.2.2.2.1]; exact hto⟩) (fun E n' t' σ' ρ' hx9 => ex_2c hx9.2.1)) (fun _ => rfl) (wq_k2 (by decide) hc) (jk_in0123 hc) (fun h => by cases h) (fun n' σ1 h1 => ?_)
  obtain ⟨-, -, -, q4, -, -, q7, q8, q9, q10, q11, -, q13⟩ := lr_f h1
  exact c_X13_shores q7 q8 q4.1 q9 q10 q11 (hf _) q4.2.2.1
theorem lf_49 {G : jk_G} {n : Nat} {t : jk_T} {σ : jk_I} {ρ : jk_P} {N : Nat} {f : Nat → Int} {x m o d k : Nat} (hzl : zl_ok G N f) (hr : lr x m o d k n t σ ρ) (hk9 : k ≤ 512) : lc_F G yL_lowestColumn mL_lowestColumn [(0, 9, 12, 19), (0, 9, 15, 43)] 6 36 [.ref x, jI (f (5 * (k : Int) + 1).toNat), .ref o] yX13_lowestColumn mX13_lowestColumn [.ref m, jI (f (5 * (k : Int) + 1).toNat)] false x m o d k n t σ ρ := by
  obtain ⟨hz, hzx, hzv, hzp, hzn, ⟨hN, hf⟩, -⟩ := hzl
  obtain ⟨v, K, B, O, g, b, h, sv, Bf, L, P, Lo, hat, hb⟩ := hr
  obtain ⟨hx, hln, hrel, hall, hnn, hsi, hma, hmg, hmo, hmz, hmz1, hto, hJ⟩ := lr_f hat
  have hB := lr_B hat hb hk9
  have hc := md_q_lw_c g (f (5 * (k : Int) + 1).toNat)
  refine lc_query hat hb (c := (md_q_lw g (f (5 * (k : Int) + 1).toNat)).1) (val := (md_q_lw g (f (5 * (k : Int) + 1).toNat)).2) (w_lowestColumn hzn hx (c_X12_lowestColumn hz hzx hln hrel hall hnn hsi (hf _)) (fun v' n' t' σ' ρ' hq => ⟨⟨_, hq.2.1⟩, by rw [hq.2.2.2.1]; exact hto⟩) (fun E n' t' σ' ρ' hx9 => ex_2c hx9.2.1)) (fun _ => rfl) (wq_k2 (by decide) hc) (jk_in0123 hc) (fun h => by cases h) (fun n' σ1 h1 => ?_)
  obtain ⟨-, -, -, q4, -, -, q7, q8, q9, q10, q11, -, q13⟩ := lr_f h1
  exact c_X13_lowestColumn q7 q8 q4.1 q9 q10 q11 (hf _) q4.2.2.1
theorem lf_12 {G : jk_G} {n : Nat} {t : jk_T} {σ : jk_I} {ρ : jk_P} {N : Nat} {f : Nat → Int} {x m o d k : Nat} (hzl : zl_ok G N f) (hr : lr x m o d k n t σ ρ) (hk9 : k ≤ 512) : lc_V G yX12_benchmarkCount mX12_benchmarkCount 6 36 yX13_benchmarkCount mX13_benchmarkCount x m o d k n t σ ρ := by
  obtain ⟨hz, hzx, hzv, hzp, hzn, ⟨hN, hf⟩, -⟩ := hzl
  obtain ⟨v, K, B, O, g, b, h, sv, Bf, L, P, Lo, hat, hb⟩ := hr
  obtain ⟨hx, hln, hrel, hall, hnn, hsi, hma, hmg, hmo, hmz, hmz1, hto, hJ⟩ := lr_f hat
  have hB := lr_B hat hb hk9
  refine lc_queryV hat hb (c_X12_benchmarkCount hz hzx hln hrel hall hnn hsi ) (fun _ _ _ _ _ h => ln_RX0 rfl h) (by have i0 := hall.1.1; have i1 := hall.1.2.1; have i2 := hall.1.2.2.1; have i3 := hall.1.2.2.2.1; exact ⟨by omega, by omega⟩) (fun n' σ1 h1 => ?_)
  obtain ⟨-, -, -, q4, -, -, q7, q8, q9, q10, q11, -, q13⟩ := lr_f h1
  exact c_X13_benchmarkCount q7 q8 q4.1 q9 q10 q11
theorem lf_20 {G : jk_G} {n : Nat} {t : jk_T} {σ : jk_I} {ρ : jk_P} {N : Nat} {f : Nat → Int} {x m o d k : Nat} (hzl : zl_ok G N f) (hr : lr x m o d k n t σ ρ) (hk9 : k ≤ 512) : lc_V G yX12_lineCount mX12_lineCount 6 36 yX13_lineCount mX13_lineCount x m o d k n t σ ρ := by
  obtain ⟨hz, hzx, hzv, hzp, hzn, ⟨hN, hf⟩, -⟩ := hzl
  obtain ⟨v, K, B, O, g, b, h, sv, Bf, L, P, Lo, hat, hb⟩ := hr
  obtain ⟨hx, hln, hrel, hall, hnn, hsi, hma, hmg, hmo, hmz, hmz1, hto, hJ⟩ := lr_f hat
  have hB := lr_B hat hb hk9
  refine lc_queryV hat hb (c_X12_lineCount hz hzx hln hrel hall hnn hsi ) (fun _ _ _ _ _ h => ln_RX0 rfl h) (by have i0 := hall.1.1; have i1 := hall.1.2.1; have i2 := hall.1.2.2.1; have i3 := hall.1.2.2.2.1; exact ⟨by omega, by omega⟩) (fun n' σ1 h1 => ?_)
  obtain ⟨-, -, -, q4, -, -, q7, q8, q9, q10, q11, -, q13⟩ := lr_f h1
  exact c_X13_lineCount q7 q8 q4.1 q9 q10 q11
theorem lf_32 {G : jk_G} {n : Nat} {t : jk_T} {σ : jk_I} {ρ : jk_P} {N : Nat} {f : Nat → Int} {x m o d k : Nat} (hzl : zl_ok G N f) (hr : lr x m o d k n t σ ρ) (hk9 : k ≤ 512) : lc_V G yX12_forestLength mX12_forestLength 6 36 yX13_forestLength mX13_forestLength x m o d k n t σ ρ := by
  obtain ⟨hz, hzx, hzv, hzp, hzn, ⟨hN, hf⟩, -⟩ := hzl
  obtain ⟨v, K, B, O, g, b, h, sv, Bf, L, P, Lo, hat, hb⟩ := hr
  obtain ⟨hx, hln, hrel, hall, hnn, hsi, hma, hmg, hmo, hmz, hmz1, hto, hJ⟩ := lr_f hat
  have hB := lr_B hat hb hk9
  refine lc_queryV hat hb (c_X12_forestLength hz hzx hln hrel hall hnn hsi ) (fun _ _ _ _ _ h => ln_RX0 rfl h) (md_q_fl_in hall) (fun n' σ1 h1 => ?_)
  obtain ⟨-, -, -, q4, -, -, q7, q8, q9, q10, q11, -, q13⟩ := lr_f h1
  exact c_X13_forestLength q7 q8 q4.1 q9 q10 q11
theorem lf_33 {G : jk_G} {n : Nat} {t : jk_T} {σ : jk_I} {ρ : jk_P} {N : Nat} {f : Nat → Int} {x m o d k : Nat} (hzl : zl_ok G N f) (hr : lr x m o d k n t σ ρ) (hk9 : k ≤ 512) : lc_V G yX12_forestLengthByGrowing mX12_forestLengthByGrowing 6 36 yX13_forestLengthByGrowing mX13_forestLengthByGrowing x m o d k n t σ ρ := by
  obtain ⟨hz, hzx, hzv, hzp, hzn, ⟨hN, hf⟩, -⟩ := hzl
  obtain ⟨v, K, B, O, g, b, h, sv, Bf, L, P, Lo, hat, hb⟩ := hr
  obtain ⟨hx, hln, hrel, hall, hnn, hsi, hma, hmg, hmo, hmz, hmz1, hto, hJ⟩ := lr_f hat
  have hB := lr_B hat hb hk9
  refine lc_queryV hat hb (c_X12_forestLengthByGrowing hz hzx hln hrel hall hnn hsi ) (fun _ _ _ _ _ h => ln_RX0 rfl h) (md_q_fl_in hall) (fun n' σ1 h1 => ?_)
  obtain ⟨-, -, -, q4, -, -, q7, q8, q9, q10, q11, -, q13⟩ := lr_f h1
  exact c_X13_forestLengthByGrowing q7 q8 q4.1 q9 q10 q11
theorem lf_34 {G : jk_G} {n : Nat} {t : jk_T} {σ : jk_I} {ρ : jk_P} {N : Nat} {f : Nat → Int} {x m o d k : Nat} (hzl : zl_ok G N f) (hr : lr x m o d k n t σ ρ) (hk9 : k ≤ 512) : lc_V G yX12_treeCount mX12_treeCount 6 36 yX13_treeCount mX13_treeCount x m o d k n t σ ρ := by
  obtain ⟨hz, hzx, hzv, hzp, hzn, ⟨hN, hf⟩, -⟩ := hzl
  obtain ⟨v, K, B, O, g, b, h, sv, Bf, L, P, Lo, hat, hb⟩ := hr
  obtain ⟨hx, hln, hrel, hall, hnn, hsi, hma, hmg, hmo, hmz, hmz1, hto, hJ⟩ := lr_f hat
  have hB := lr_B hat hb hk9
  refine lc_queryV hat hb (c_X12_treeCount hz hzx hln hrel hall hnn hsi ) (fun _ _ _ _ _ h => ln_RX0 rfl h) (md_q_tc_in hall) (fun n' σ1 h1 => ?_)
  obtain ⟨-, -, -, q4, -, -, q7, q8, q9, q10, q11, -, q13⟩ := lr_f h1
  exact c_X13_treeCount q7 q8 q4.1 q9 q10 q11
theorem lf_35 {G : jk_G} {n : Nat} {t : jk_T} {σ : jk_I} {ρ : jk_P} {N : Nat} {f : Nat → Int} {x m o d k : Nat} (hzl : zl_ok G N f) (hr : lr x m o d k n t σ ρ) (hk9 : k ≤ 512) : lc_V G yX12_loopCount mX12_loopCount 6 36 yX13_loopCount mX13_loopCount x m o d k n t σ ρ := by
  obtain ⟨hz, hzx, hzv, hzp, hzn, ⟨hN, hf⟩, -⟩ := hzl
  obtain ⟨v, K, B, O, g, b, h, sv, Bf, L, P, Lo, hat, hb⟩ := hr
  obtain ⟨hx, hln, hrel, hall, hnn, hsi, hma, hmg, hmo, hmz, hmz1, hto, hJ⟩ := lr_f hat
  have hB := lr_B hat hb hk9
  refine lc_queryV hat hb (c_X12_loopCount hz hzx hln hrel hall hnn hsi ) (fun _ _ _ _ _ h => ln_RX0 rfl h) (md_q_lo_in hall) (fun n' σ1 h1 => ?_)
  obtain ⟨-, -, -, q4, -, -, q7, q8, q9, q10, q11, -, q13⟩ := lr_f h1
  exact c_X13_loopCount q7 q8 q4.1 q9 q10 q11
theorem lf_42 {G : jk_G} {n : Nat} {t : jk_T} {σ : jk_I} {ρ : jk_P} {N : Nat} {f : Nat → Int} {x m o d k : Nat} (hzl : zl_ok G N f) (hr : lr x m o d k n t σ ρ) (hk9 : k ≤ 512) : lc_V G yX12_profileCount mX12_profileCount 6 36 yX13_profileCount mX13_profileCount x m o d k n t σ ρ := by
  obtain ⟨hz, hzx, hzv, hzp, hzn, ⟨hN, hf⟩, -⟩ := hzl
  obtain ⟨v, K, B, O, g, b, h, sv, Bf, L, P, Lo, hat, hb⟩ := hr
  obtain ⟨hx, hln, hrel, hall, hnn, hsi, hma, hmg, hmo, hmz, hmz1, hto, hJ⟩ := lr_f hat
  have hB := lr_B hat hb hk9
  refine lc_queryV hat hb (c_X12_profileCount hz hzx hln hrel hall hnn hsi ) (fun _ _ _ _ _ h => ln_RX0 rfl h) (by have i0 := hall.1.1; have i1 := hall.1.2.1; have i2 := hall.1.2.2.1; have i3 := hall.1.2.2.2.1; exact ⟨by omega, by omega⟩) (fun n' σ1 h1 => ?_)
  obtain ⟨-, -, -, q4, -, -, q7, q8, q9, q10, q11, -, q13⟩ := lr_f h1
  exact c_X13_profileCount q7 q8 q4.1 q9 q10 q11
theorem lf_44 {G : jk_G} {n : Nat} {t : jk_T} {σ : jk_I} {ρ : jk_P} {N : Nat} {f : Nat → Int} {x m o d k : Nat} (hzl : zl_ok G N f) (hr : lr x m o d k n t σ ρ) (hk9 : k ≤ 512) : lc_V G yX12_waterLevel mX12_waterLevel 6 36 yX13_waterLevel mX13_waterLevel x m o d k n t σ ρ := by
  obtain ⟨hz, hzx, hzv, hzp, hzn, ⟨hN, hf⟩, -⟩ := hzl
  obtain ⟨v, K, B, O, g, b, h, sv, Bf, L, P, Lo, hat, hb⟩ := hr
  obtain ⟨hx, hln, hrel, hall, hnn, hsi, hma, hmg, hmo, hmz, hmz1, hto, hJ⟩ := lr_f hat
  have hB := lr_B hat hb hk9
  refine lc_queryV hat hb (c_X12_waterLevel hz hzx hln hrel hall hnn hsi ) (fun _ _ _ _ _ h => ln_RX0 rfl h) (by have i0 := hall.1.1; have i1 := hall.1.2.1; have i2 := hall.1.2.2.1; have i3 := hall.1.2.2.2.1; exact ⟨by omega, by omega⟩) (fun n' σ1 h1 => ?_)
  obtain ⟨-, -, -, q4, -, -, q7, q8, q9, q10, q11, -, q13⟩ := lr_f h1
  exact c_X13_waterLevel q7 q8 q4.1 q9 q10 q11
theorem lf_52 {G : jk_G} {n : Nat} {t : jk_T} {σ : jk_I} {ρ : jk_P} {N : Nat} {f : Nat → Int} {x m o d k : Nat} (hzl : zl_ok G N f) (hr : lr x m o d k n t σ ρ) (hk9 : k ≤ 512) : lc_V G yX12_isConsistent mX12_isConsistent 0 0 yX13_isConsistent mX13_isConsistent x m o d k n t σ ρ := by
  obtain ⟨hz, hzx, hzv, hzp, hzn, ⟨hN, hf⟩, -⟩ := hzl
  obtain ⟨v, K, B, O, g, b, h, sv, Bf, L, P, Lo, hat, hb⟩ := hr
  obtain ⟨hx, hln, hrel, hall, hnn, hsi, hma, hmg, hmo, hmz, hmz1, hto, hJ⟩ := lr_f hat
  have hB := lr_B hat hb hk9
  refine lc_queryV hat hb (c_X12_isConsistent hz hzx hln hrel hall hnn hsi (by omega)) (fun _ _ _ _ _ h => h) (⟨by decide, by decide⟩) (fun n' σ1 h1 => ?_)
  obtain ⟨-, -, -, q4, -, -, q7, q8, q9, q10, q11, -, q13⟩ := lr_f h1
  exact c_X13_isConsistent q7 q9 q10 q11
end L4
