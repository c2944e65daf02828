section L4
theorem ln_RX0 {x : Nat} {k : Int} {ex : Int → String} {σ : jk_I} {n : Nat} {t : jk_T} {ρ : jk_P} {E : String} {n' : Nat} {t' : jk_T} {σ' : jk_I} {ρ' : jk_P} (hk : k = 0) (h : ln_RX x k ex σ n t ρ E n' t' σ' ρ') : False := h.1 hk
theorem ex_2c {a b : String} {k : Int} {E : String} (h : E = ex_2 a b k) : E = a ∨ E = b := by
  subst h; unfold ex_2; split
  · exact Or.inl rfl
  · exact Or.inr rfl
theorem ex_3c {a b c : String} {k : Int} {E : String} (h : E = ex_3 a b c k) : E = a ∨ E = b ∨ E = c := by
  subst h; unfold ex_3; split
  · exact Or.inl rfl
  · split
    · exact Or.inr (Or.inl rfl)
    · exact Or.inr (Or.inr rfl)
theorem jk_in012 {c : Int} (h : c = 0 ∨ c = 1) : jk_in c := by rcases h with rfl | rfl <;> exact ⟨by decide, by decide⟩
theorem jk_in0123 {c : Int} (h : c = 0 ∨ c = 1 ∨ c = 2) : jk_in c := by rcases h with rfl | rfl | rfl <;> exact ⟨by decide, by decide⟩
theorem jk_in3 {c : Int} (h : c = 0 ∨ c = 1 ∨ c = 2 ∨ c = 3) : jk_in c := by rcases h with rfl | rfl | rfl | rfl <;> exact ⟨by decide, by decide⟩
theorem md_why012 (g : Int → Int) (l : Int) : 0 < md_why g l → md_why g l = 0 ∨ md_why g l = 1 ∨ md_why g l = 2 := fun _ => by
  have := md_why_bd g l
  omega

theorem md_q_fx_c (g : Int → Int) (p : Int) : (md_q_fx g p).1 = 0 ∨ (md_q_fx g p).1 = 1 := by
  unfold md_q_fx
  repeat' split
  all_goals first | exact Or.inl rfl | exact Or.inr (rfl)
theorem md_q_hh_c (g : Int → Int) (p : Int) : (md_q_hh g p).1 = 0 ∨ (md_q_hh g p).1 = 1 := by
  unfold md_q_hh
  repeat' split
  all_goals first | exact Or.inl rfl | exact Or.inr (rfl)
theorem md_q_ht_c (g : Int → Int) (p : Int) : (md_q_ht g p).1 = 0 ∨ (md_q_ht g p).1 = 1 ∨ (md_q_ht g p).1 = 2 := by
  unfold md_q_ht
  repeat' split
  all_goals first | exact Or.inl rfl | exact Or.inr (Or.inl rfl) | exact Or.inr (Or.inr (rfl))
theorem md_q_ce_c (g : Int → Int) (p : Int) : (md_q_ce g p).1 = 0 ∨ (md_q_ce g p).1 = 1 ∨ (md_q_ce g p).1 = 2 := by
  unfold md_q_ce
  repeat' split
  all_goals first | exact Or.inl rfl | exact Or.inr (Or.inl rfl) | exact Or.inr (Or.inr (rfl))
theorem md_q_da_c (g : Int → Int) (p : Int) : (md_q_da g p).1 = 0 ∨ (md_q_da g p).1 = 1 ∨ (md_q_da g p).1 = 2 := by
  unfold md_q_da
  repeat' split
  all_goals first | exact Or.inl rfl | exact Or.inr (Or.inl rfl) | exact Or.inr (Or.inr (rfl))
theorem md_q_bh_c (g : Int → Int) (p : Int) : (md_q_bh g p).1 = 0 ∨ (md_q_bh g p).1 = 1 := by
  unfold md_q_bh
  repeat' split
  all_goals first | exact Or.inl rfl | exact Or.inr (rfl)
theorem md_q_firstOf_c (g : Int → Int) (p : Int) : (md_q_firstOf g p).1 = 0 ∨ (md_q_firstOf g p).1 = 1 := by
  unfold md_q_firstOf md_q_ln
  repeat' split
  all_goals first | exact Or.inl rfl | exact Or.inr (rfl)
theorem md_q_secondOf_c (g : Int → Int) (p : Int) : (md_q_secondOf g p).1 = 0 ∨ (md_q_secondOf g p).1 = 1 := by
  unfold md_q_secondOf md_q_ln
  repeat' split
  all_goals first | exact Or.inl rfl | exact Or.inr (rfl)
theorem md_q_lengthOf_c (g : Int → Int) (p : Int) : (md_q_lengthOf g p).1 = 0 ∨ (md_q_lengthOf g p).1 = 1 := by
  unfold md_q_lengthOf md_q_ln
  repeat' split
  all_goals first | exact Or.inl rfl | exact Or.inr (rfl)
theorem md_q_lv_c (g : Int → Int) (p : Int) : (md_q_lv g p).1 = 0 ∨ (md_q_lv g p).1 = 1 := by
  unfold md_q_lv
  repeat' split
  all_goals first | exact Or.inl rfl | exact Or.inr (rfl)
theorem md_q_correction_c (g : Int → Int) (p : Int) : (md_q_correction g p).1 = 0 ∨ (md_q_correction g p).1 = 1 := by
  unfold md_q_correction md_q_ln
  repeat' split
  all_goals first | exact Or.inl rfl | exact Or.inr (rfl)
theorem md_q_di_c (g : Int → Int) (p : Int) : (md_q_di g p).1 = 0 ∨ (md_q_di g p).1 = 1 ∨ (md_q_di g p).1 = 2 := by
  unfold md_q_di
  repeat' split
  all_goals first | exact Or.inl rfl | exact Or.inr (Or.inl rfl) | exact Or.inr (Or.inr (rfl))
theorem md_q_ex_c (g : Int → Int) (p : Int) : (md_q_ex g p).1 = 0 ∨ (md_q_ex g p).1 = 1 := by
  unfold md_q_ex
  repeat' split
  all_goals first | exact Or.inl rfl | exact Or.inr (rfl)
theorem md_q_us_c (g : Int → Int) (p : Int) : (md_q_us g p).1 = 0 ∨ (md_q_us g p).1 = 1 := by
  unfold md_q_us
  repeat' split
  all_goals first | exact Or.inl rfl | exact Or.inr (rfl)
theorem md_q_to_c (g : Int → Int) (p : Int) : (md_q_to g p).1 = 0 ∨ (md_q_to g p).1 = 1 := by
  unfold md_q_to
  repeat' split
  all_goals first | exact Or.inl rfl | exact Or.inr (rfl)
theorem md_q_ld_c (g : Int → Int) (p : Int) : (md_q_ld g p).1 = 0 ∨ (md_q_ld g p).1 = 1 := by
  unfold md_q_ld
  repeat' split
  all_goals first | exact Or.inl rfl | exact Or.inr (rfl)
theorem md_q_if_c (g : Int → Int) (p : Int) : (md_q_if g p).1 = 0 ∨ (md_q_if g p).1 = 1 := by
  unfold md_q_if
  repeat' split
  all_goals first | exact Or.inl rfl | exact Or.inr (rfl)
theorem md_q_la_c (g : Int → Int) (p : Int) : (md_q_la g p).1 = 0 ∨ (md_q_la g p).1 = 1 := by
  unfold md_q_la
  repeat' split
  all_goals first | exact Or.inl rfl | exact Or.inr (rfl)
theorem md_q_ls_c (g : Int → Int) (p : Int) : (md_q_ls g p).1 = 0 ∨ (md_q_ls g p).1 = 1 ∨ (md_q_ls g p).1 = 2 := by
  have hw := md_why012 g p
  unfold md_q_ls
  repeat' split
  all_goals first | (exact hw (by assumption)) | exact Or.inl rfl | exact Or.inr (Or.inl rfl) | exact Or.inr (Or.inr rfl)
theorem md_q_ll_c (g : Int → Int) (p : Int) : (md_q_ll g p).1 = 0 ∨ (md_q_ll g p).1 = 1 ∨ (md_q_ll g p).1 = 2 := by
  have hw := md_why012 g p
  unfold md_q_ll
  repeat' split
  all_goals first | (exact hw (by assumption)) | exact Or.inl rfl | exact Or.inr (Or.inl rfl) | exact Or.inr (Or.inr rfl)
theorem md_q_mc_c (g : Int → Int) (p : Int) : (md_q_mc g p).1 = 0 ∨ (md_q_mc g p).1 = 1 ∨ (md_q_mc g p).1 = 2 := by
  have hw := md_why012 g p
  unfold md_q_mc
  repeat' split
  all_goals first | (exact hw (by assumption)) | exact Or.inl rfl | exact Or.inr (Or.inl rfl) | exact Or.inr (Or.inr rfl)
theorem md_q_pt_c (g : Int → Int) (p c : Int) : (md_q_pt g p c).1 = 0 ∨ (md_q_pt g p c).1 = 1 ∨ (md_q_pt g p c).1 = 2 := by
  have hw := md_why012 g p
  unfold md_q_pt
  repeat' split
  all_goals first | (exact hw (by assumption)) | exact Or.inl rfl | exact Or.inr (Or.inl rfl) | exact Or.inr (Or.inr rfl)
theorem md_q_st_c (g : Int → Int) (p : Int) : (md_q_st g p).1 = 0 ∨ (md_q_st g p).1 = 1 := by
  unfold md_q_st
  repeat' split
  all_goals first | exact Or.inl rfl | exact Or.inr (rfl)
theorem md_q_gr_c (g : Int → Int) (p c : Int) : (md_q_gr g p c).1 = 0 ∨ (md_q_gr g p c).1 = 1 ∨ (md_q_gr g p c).1 = 2 ∨ (md_q_gr g p c).1 = 3 := by
  unfold md_q_gr
  repeat' split
  all_goals first | exact Or.inl rfl | exact Or.inr (Or.inl rfl) | exact Or.inr (Or.inr (Or.inl rfl)) | exact Or.inr (Or.inr (Or.inr (rfl)))
theorem md_q_wc_c (g : Int → Int) (p : Int) : (md_q_wc g p).1 = 0 ∨ (md_q_wc g p).1 = 1 ∨ (md_q_wc g p).1 = 2 := by
  have hw : md_wng g p = 0 ∨ md_wng g p = 1 ∨ md_wng g p = 2 := by
    unfold md_wng
    repeat' split
    all_goals first | exact Or.inl rfl | exact Or.inr (Or.inl rfl) | exact Or.inr (Or.inr rfl)
  unfold md_q_wc
  repeat' split
  all_goals first | exact hw | exact Or.inl rfl
theorem md_q_sh_c (g : Int → Int) (p : Int) : (md_q_sh g p).1 = 0 ∨ (md_q_sh g p).1 = 1 ∨ (md_q_sh g p).1 = 2 := by
  have hw : md_wng g p = 0 ∨ md_wng g p = 1 ∨ md_wng g p = 2 := by
    unfold md_wng
    repeat' split
    all_goals first | exact Or.inl rfl | exact Or.inr (Or.inl rfl) | exact Or.inr (Or.inr rfl)
  unfold md_q_sh
  repeat' split
  all_goals first | exact hw | exact Or.inl rfl
theorem md_q_lw_c (g : Int → Int) (p : Int) : (md_q_lw g p).1 = 0 ∨ (md_q_lw g p).1 = 1 ∨ (md_q_lw g p).1 = 2 := by
  unfold md_q_lw
  repeat' split
  all_goals first | exact Or.inl rfl | exact Or.inr (Or.inl rfl) | exact Or.inr (Or.inr (rfl))
theorem md_q_fl_in {B : Int} {g : Int → Int} (h : md_all B g) : jk_in (md_q_fl g).2 := by
  have h1 := h.1.2.1
  have hs := jk_sum_bd2 (f := fun l => md_T g l * g (56 + l)) (a := 0) (b := 800) (g 1).toNat (fun l h0 hl => by
    obtain ⟨-, -, ⟨a1, a2⟩, -⟩ := h.1.2.2.2.2.2.1 l ⟨h0, by omega⟩
    have hT : md_T g l = 0 ∨ md_T g l = 1 := (md_kr_tr h.1 50).1 l ⟨h0, by omega⟩
    show 0 ≤ md_T g l * g (56 + l) ∧ md_T g l * g (56 + l) ≤ 800
    rcases hT with e | e <;> rw [e] <;> constructor <;> omega)
  show jk_in (jk_sum _ _)
  exact ⟨by omega, by omega⟩
theorem md_q_tc_in {B : Int} {g : Int → Int} (h : md_all B g) : jk_in (md_q_tc g).2 := by
  have h1 := h.1.1
  have hs := jk_sum_bd2 (f := fun p => if md_Ro g p = p then 1 else 0) (a := 0) (b := 1) (g 0).toNat (fun l h0 hl => by
    show 0 ≤ (if md_Ro g l = l then (1 : Int) else 0) ∧ (if md_Ro g l = l then (1 : Int) else 0) ≤ 1
    split <;> exact ⟨by decide, by decide⟩)
  show jk_in (jk_sum _ _)
  exact ⟨by omega, by omega⟩
theorem md_q_lo_in {B : Int} {g : Int → Int} (h : md_all B g) : jk_in (md_q_lo g).2 := by
  have h1 := h.1.2.1
  have hs := jk_sum_bd2 (f := fun l => jB (md_clo g (md_T g) l)) (a := 0) (b := 1) (g 1).toNat (fun l h0 hl => by
    show 0 ≤ jB (md_clo g (md_T g) l) ∧ jB (md_clo g (md_T g) l) ≤ 1
    rcases jB_01 (md_clo g (md_T g) l) with e | e <;> rw [e] <;> exact ⟨by decide, by decide⟩)
  show jk_in (jk_sum _ _)
  exact ⟨by omega, by omega⟩
end L4

