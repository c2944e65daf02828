section S2
theorem zs_cp : ∀ i, i < 20 → ∀ j, j < zs_len i → 0 < zs_ch i j ∧ zs_ch i j < 128 := by decide
theorem cs_drop {i k : Nat} (h : k < zs_len i) : (zs_tx i).drop k = zs_ch i k :: (zs_tx i).drop (k + 1) := by
  unfold zs_len at h
  rw [List.drop_eq_getElem_cons h]
  unfold zs_ch
  rw [List.getD_eq_getElem?_getD, List.getElem?_eq_getElem h]
  rfl
theorem cs_drop0 {i k : Nat} (h : zs_len i ≤ k) : (zs_tx i).drop k = [] := List.drop_of_length_le h
/-- how many signs of a word fit from a place on -/
def cs_ft (Bf : Int → Int) (ty : Int) : Int → List Int → Nat
  | _, [] => 0
  | p, c :: l => if cs_sg Bf ty p = c then 1 + cs_ft Bf ty (p + 1) l else 0
theorem cs_ft_le {Bf : Int → Int} {ty : Int} : ∀ (l : List Int) (p : Int), cs_ft Bf ty p l ≤ l.length
  | [], p => Nat.le_refl _
  | c :: l, p => by
    unfold cs_ft
    have := cs_ft_le (Bf := Bf) (ty := ty) l (p + 1)
    rw [List.length_cons]
    split <;> omega
/-- one sign of a form -/
def cs_st (Bf : Int → Int) (ty : Int) (s : md_PS × Nat × (Int → Int)) (c : Int) : md_PS × Nat × (Int → Int) :=
  if s.1.2 = true then s else if zm_d c = 0 then (md_nd Bf ty c s.1, s.2) else
  if s.2.1 < 4 then ((cs_ar Bf ty (zm_d c) (decide (c = 118)) s.1.1).1, s.2.1 + 1, jk_set s.2.2 (s.2.1 : Int) (cs_ar Bf ty (zm_d c) (decide (c = 118)) s.1.1).2) else s
def cs_fo (Bf : Int → Int) (ty : Int) (l : List Int) (p : Int) (r : Int → Int) : md_PS × Nat × (Int → Int) := l.foldl (cs_st Bf ty) ((p, false), 0, r)
theorem cs_st_f {Bf : Int → Int} {ty : Int} {s : md_PS × Nat × (Int → Int)} {c : Int} (h : s.1.2 = true) : cs_st Bf ty s c = s := by unfold cs_st; rw [if_pos h]
theorem cs_fold_f {Bf : Int → Int} {ty : Int} {s : md_PS × Nat × (Int → Int)} (h : s.1.2 = true) : ∀ l : List Int, l.foldl (cs_st Bf ty) s = s
  | [] => rfl
  | c :: l => by rw [List.foldl_cons, cs_st_f h]; exact cs_fold_f h l
theorem cs_st_s {Bf : Int → Int} {ty : Int} {s : md_PS × Nat × (Int → Int)} {c : Int} (h : s.1.2 = false) (hd : zm_d c = 0) : cs_st Bf ty s c = (md_nd Bf ty c (s.1.1, false), s.2) := by
  unfold cs_st; rw [if_neg (by rw [h]; decide), if_pos hd]
  obtain ⟨⟨a, b⟩, e⟩ := s
  dsimp only at h; subst h; rfl
theorem cs_st_a {Bf : Int → Int} {ty : Int} {s : md_PS × Nat × (Int → Int)} {c : Int} {sg : Bool} (h : s.1.2 = false) (hd : ¬ zm_d c = 0) (h4 : s.2.1 < 4) (hs : decide (c = 118) = sg) : cs_st Bf ty s c = ((cs_ar Bf ty (zm_d c) sg s.1.1).1, s.2.1 + 1, jk_set s.2.2 (s.2.1 : Int) (cs_ar Bf ty (zm_d c) sg s.1.1).2) := by
  unfold cs_st; rw [if_neg (by rw [h]; decide), if_neg hd, if_pos h4, hs]
theorem cs_st_o {Bf : Int → Int} {ty : Int} {s : md_PS × Nat × (Int → Int)} {c : Int} (h : s.1.2 = false) (hd : ¬ zm_d c = 0) (h4 : ¬ s.2.1 < 4) : cs_st Bf ty s c = s := by
  unfold cs_st; rw [if_neg (by rw [h]; decide), if_neg hd, if_neg h4]
theorem cs_ng_ok {Bf : Int → Int} {ty p : Int} {sg : Bool} (hp : md_sok ty p) : md_sok ty (p + jB (cs_ng Bf ty sg p)) := by
  unfold md_sok at *
  cases h : cs_ng Bf ty sg p
  · rw [jB_f]; omega
  · rw [jB_t]
    unfold cs_ng md_he at h
    by_cases h3 : p < ty
    · omega
    · simp [h3] at h
theorem cs_ar_ok {Bf : Int → Int} {ty p : Int} {most : Nat} {sg : Bool} (hB : ∀ j, 0 ≤ j ∧ j < 60 → 0 ≤ Bf j ∧ Bf j < 65536) (hty : 0 ≤ ty ∧ ty ≤ 60) (hp : md_sok ty p) : md_sok ty (cs_ar Bf ty most sg p).1.1 :=
  md_di_ok hB hty (s := (p + jB (cs_ng Bf ty sg p), false)) (cs_ng_ok hp)
theorem cs_st_ok {Bf : Int → Int} {ty : Int} (hB : ∀ j, 0 ≤ j ∧ j < 60 → 0 ≤ Bf j ∧ Bf j < 65536) (hty : 0 ≤ ty ∧ ty ≤ 60) {s : md_PS × Nat × (Int → Int)} {c : Int} (hc : 0 ≤ c) (hs : md_sok ty s.1.1) : md_sok ty (cs_st Bf ty s c).1.1 := by
  unfold cs_st
  split
  · exact hs
  · split
    · exact md_nd_ok hB hty hc hs
    · split
      · exact cs_ar_ok hB hty hs
      · exact hs
theorem cs_fold_ok {Bf : Int → Int} {ty : Int} (hB : ∀ j, 0 ≤ j ∧ j < 60 → 0 ≤ Bf j ∧ Bf j < 65536) (hty : 0 ≤ ty ∧ ty ≤ 60) : ∀ (l : List Int), (∀ c, c ∈ l → 0 ≤ c) → ∀ s : md_PS × Nat × (Int → Int), md_sok ty s.1.1 → md_sok ty (l.foldl (cs_st Bf ty) s).1.1
  | [], _, s, h => h
  | c :: l, hl, s, h => cs_fold_ok hB hty l (fun c2 h2 => hl c2 (List.mem_cons_of_mem _ h2)) _ (cs_st_ok hB hty (hl c (List.mem_cons_self ..)) h)
theorem cs_st_n {Bf : Int → Int} {ty : Int} {s : md_PS × Nat × (Int → Int)} {c : Int} : (cs_st Bf ty s c).2.1 ≤ s.2.1 + 1 := by
  unfold cs_st
  split
  · exact Nat.le_succ _
  · split
    · exact Nat.le_succ _
    · split
      · exact Nat.le_refl _
      · exact Nat.le_succ _
theorem zm_bd (c : Int) : zm_d c ≤ 5 := by
  unfold zm_d
  split
  · decide
  · split
    · decide
    · split <;> decide
/-- the first word that fits whole, else the furthest -/
def cs_wd (Bf : Int → Int) (ty p : Int) : Nat → Nat → Nat → Option Nat × Nat
  | 0, _, f => (none, f)
  | m + 1, i, f => if cs_ft Bf ty p (zs_tx i) = zs_len i then (some i, zs_len i) else cs_wd Bf ty p m (i + 1) (if f < cs_ft Bf ty p (zs_tx i) then cs_ft Bf ty p (zs_tx i) else f)
def cs_kv : Option Nat → Value
  | none => .null
  | some k => .ref k
theorem cs_mx (a b : Nat) : (if (a : Int) < (b : Int) then (b : Int) else (a : Int)) = ((if a < b then b else a : Nat) : Int) := by
  by_cases h : a < b
  · rw [if_pos (by omega), if_pos h]
  · rw [if_neg (by omega), if_neg h]
theorem jk_qP {n : Nat} {t : jk_T} {σ σ2 : jk_I} {ρ : jk_P} {a b : Option Value} (h : a = b) (h2 : σ = σ2) : jk_q b n t σ2 ρ a n t σ ρ := by subst h h2; exact jk_qr
theorem c_X7_fittingSigns {G : jk_G} {n : Nat} {t : jk_T} {σ : jk_I} {ρ : jk_P} {q d : Nat} {Bf r : Int → Int} {ty p : Int} {i : Nat} (hq : sc_at t ρ q) (hs : σ q 1 = ty) (hb : σ (q + 2) = Bf) (hB : ∀ j, 0 ≤ j ∧ j < 60 → 0 ≤ Bf j ∧ Bf j < 65536) (hty : 0 ≤ ty ∧ ty ≤ 60) (hd : d ≠ q) (hd2 : d ≠ q + 2) (hz : zz_ok G) (hv : zv_ok G) (hi : i < 20) (hp : md_sok ty p) : jk_K G yX7_fittingSigns mX7_fittingSigns 0 0 [.ref q, .ref (21 + i)] n t (cs_F σ q d p r) ρ (jk_q (some (jI ((cs_ft Bf ty p (zs_tx i) : Nat) : Int))) n t (cs_F σ q d p r) ρ) jk_no := by
  have hb2 : ∀ p r, cs_F σ q d p r (q + 2) = Bf := fun p r => (cs_F_ne (by omega) (Ne.symm hd2) σ p r).trans hb
  have hp1 := hp.1
  have hp2 := hp.2
  have hl8 := zs_ln i hi
  refine jk_entryB (ls := [some (.ref q), some (.ref (21 + i)), none, none]) jm_X7_fittingSigns.1 rfl rfl rfl ?_
  refine jk_iconst (q := 1) dX7_fittingSigns_0 rfl ?_
  refine jk_istore2 (q := 2) dX7_fittingSigns_1 rfl rfl rfl ?_
  refine jk_iconst (q := 3) dX7_fittingSigns_2 rfl ?_
  refine jk_istore3 (q := 4) dX7_fittingSigns_3 rfl rfl rfl ?_
  have L4 : ∀ k4 : Nat, k4 ≤ zs_len i → (hk : cs_ft Bf ty p (zs_tx i) = k4 + cs_ft Bf ty (p + (k4 : Int)) ((zs_tx i).drop k4)) → jk_J G mX7_fittingSigns 4 [some (.ref q), some (.ref (21 + i)), some (jI (k4 : Int)), some (jI (k4 : Int))] [] n t (cs_F σ q d p r) ρ 0 0 (jk_q (some (jI ((cs_ft Bf ty p (zs_tx i) : Nat) : Int))) n t (cs_F σ q d p r) ρ) jk_no := by
    refine jk_loop _ (fun k4 hk4 ih4 => ?_)
    intro  hk
    refine jk_iload_n (q := 5) dX7_fittingSigns_4 rfl rfl ?_
    refine jk_aload_n (q := 6) dX7_fittingSigns_5 rfl rfl ?_
    refine jk_callVO (q := 9) (mc := 0) (ms := 0) (As := []) (zz_sO hz hi) (c_J0_length hz hi) jm_J0_length_8abf5 jw_1525 rfl (by decide) (Nat.le_of_ble_eq_true rfl) (Nat.zero_le _) (Nat.zero_le _) (fun x hx => by cases hx) dX7_fittingSigns_6 rfl (fun v' n' t' σ' ρ' hq => ?_) (fun _ _ _ _ _ h => h.elim)
    obtain ⟨rfl, rfl, rfl, rfl, rfl⟩ := hq
    simp only [Option.toList_some, List.cons_append, List.nil_append, Nat.sub_zero]
    refine jk_icmp_ge (q := 39) (q2 := 12) dX7_fittingSigns_9 rfl rfl (by first | assumption | decide | omega | exact jB_01 _ | exact jB_in _ | exact hB _ ⟨by omega, by omega⟩ | exact ⟨by omega, by omega⟩) (by first | assumption | decide | omega | exact jB_01 _ | exact jB_in _ | exact hB _ ⟨by omega, by omega⟩ | exact ⟨by omega, by omega⟩) (fun z1 => ?_) (fun z1 => ?_)
    · refine jk_iload_n (q := 40) dX7_fittingSigns_39 rfl rfl ?_
      exact jk_iret rfl dX7_fittingSigns_40 (by rw [hk]; first | (rw [cs_drop0 (by omega)]; exact jk_qr) | (rw [cs_drop (k := k4) (by omega)]; unfold cs_ft; rw [if_neg (by assumption)]; exact jk_qr))
    · have hc9 := zs_cp i hi k4 (by omega)
      have hsg := cs_sg_bd (Bf := Bf) hB hty (p + (k4 : Int))
      refine jk_aload_n (q := 13) dX7_fittingSigns_12 rfl rfl ?_
      refine jk_aload_n (q := 14) dX7_fittingSigns_13 rfl rfl ?_
      refine jk_getIR (q := 17) (k := 7) 2 2 rfl (by first | exact hq.1.1 | exact hq.1.2.1 | assumption) (by first | exact hb2 _ _ | exact cs_F_q _ _ _ _ _ | exact cs_F_d hd _ _ _ | rfl) rfl rfl jw_320 dX7_fittingSigns_14 rfl ?_
      rw [jk_set_at]
      refine jk_iload_n (q := 18) dX7_fittingSigns_17 rfl rfl ?_
      refine jk_iadd (q := 19) dX7_fittingSigns_18 rfl ?_
      refine jk_cV1p (q := 22) (c_X7_signAt (i := p + (k4 : Int)) hq hs hb hB hty hd hd2 ⟨by omega, by omega⟩) jm_X7_signAt jw_1526 rfl (by first | exact hq.1.1 | exact hq.1.2.1 | assumption) rfl rfl rfl dX7_fittingSigns_19 rfl ?_
      refine jk_aload_n (q := 23) dX7_fittingSigns_22 rfl rfl ?_
      refine jk_iload_n (q := 24) dX7_fittingSigns_23 rfl rfl ?_
      refine jk_callVO (q := 27) (mc := 0) (ms := 0) (As := [jI (k4 : Int)]) (zz_sO hz hi) (c_J0_charAt hz hi hv (j := (k4 : Int)) ⟨by omega, by omega⟩) jm_J0_charAt_5068e jw_1530 rfl (by decide) (Nat.le_of_ble_eq_true rfl) (Nat.zero_le _) (Nat.zero_le _) (fun x hx => by cases hx) dX7_fittingSigns_24 rfl (fun v' n' t' σ' ρ' hq => ?_) (fun _ _ _ _ _ h => h.elim)
      obtain ⟨rfl, rfl, rfl, rfl, rfl⟩ := hq
      simp only [Option.toList_some, List.cons_append, List.nil_append, Nat.sub_zero]
      rw [show ((k4 : Nat) : Int).toNat = k4 from Int.toNat_natCast k4]
      refine jk_icmp_ne (q := 39) (q2 := 30) dX7_fittingSigns_27 rfl rfl (by first | assumption | decide | omega | exact jB_01 _ | exact jB_in _ | exact hB _ ⟨by omega, by omega⟩ | exact ⟨by omega, by omega⟩) (by first | assumption | decide | omega | exact jB_01 _ | exact jB_in _ | exact hB _ ⟨by omega, by omega⟩ | exact ⟨by omega, by omega⟩) (fun z2 => ?_) (fun z2 => ?_)
      · refine jk_iload_n (q := 40) dX7_fittingSigns_39 rfl rfl ?_
        exact jk_iret rfl dX7_fittingSigns_40 (by rw [hk]; first | (rw [cs_drop0 (by omega)]; exact jk_qr) | (rw [cs_drop (k := k4) (by omega)]; unfold cs_ft; rw [if_neg (by assumption)]; exact jk_qr))
      · refine jk_iinc2 (q := 33) dX7_fittingSigns_30 rfl rfl rfl ?_
        refine jk_iinc3 (q := 36) dX7_fittingSigns_33 rfl rfl rfl ?_
        refine jk_goto (q := 4) dX7_fittingSigns_36 rfl ?_
        refine jk_conv (ih4 (by omega) ?_) (jk_loc rfl (jk_loc rfl (jk_loc (jk_li ?_) (jk_loc (jk_li ?_) rfl)))) rfl
        · rw [hk, cs_drop (k := k4) (by omega), show p + ((k4 + 1 : Nat) : Int) = p + (k4 : Int) + 1 by omega]
          conv => lhs; unfold cs_ft
          rw [if_pos (by omega)]; omega
        · omega
        · omega
  exact L4 0 (Nat.zero_le _) (by rw [List.drop_zero, show p + ((0 : Nat) : Int) = p by omega, Nat.zero_add])
theorem c_X7_readForm {G : jk_G} {n : Nat} {t : jk_T} {σ : jk_I} {ρ : jk_P} {q d : Nat} {Bf r : Int → Int} {ty p : Int} {i : Nat} (hq : sc_at t ρ q) (hs : σ q 1 = ty) (hb : σ (q + 2) = Bf) (hB : ∀ j, 0 ≤ j ∧ j < 60 → 0 ≤ Bf j ∧ Bf j < 65536) (hty : 0 ≤ ty ∧ ty ≤ 60) (hd : d ≠ q) (hd2 : d ≠ q + 2) (hz : zz_ok G) (hv : zv_ok G) (hi : i < 20) (hp : md_sok ty p) (htd : t d = some (.inl (.int, 4))) : jk_K G yX7_readForm mX7_readForm 0 0 [.ref q, .ref (21 + i), .ref d] n t (cs_F σ q d p r) ρ (jk_q (some (jI (jB (!(cs_fo Bf ty (zs_tx i) p r).1.2)))) n t (cs_F σ q d (cs_fo Bf ty (zs_tx i) p r).1.1 (cs_fo Bf ty (zs_tx i) p r).2.2) ρ) jk_no := by
  have hb2 : ∀ p r, cs_F σ q d p r (q + 2) = Bf := fun p r => (cs_F_ne (by omega) (Ne.symm hd2) σ p r).trans hb
  have hp1 := hp.1
  have hp2 := hp.2
  have hl8 := zs_ln i hi
  refine jk_entryB (ls := [some (.ref q), some (.ref (21 + i)), some (.ref d), none, none, none, none, none]) jm_X7_readForm.1 rfl rfl rfl ?_
  refine jk_iconst (q := 1) dX7_readForm_0 rfl ?_
  refine jk_istore3 (q := 2) dX7_readForm_1 rfl rfl rfl ?_
  refine jk_iconst (q := 3) dX7_readForm_2 rfl ?_
  refine jk_istore4 (q := 5) dX7_readForm_3 rfl rfl rfl ?_
  refine jk_iconst (q := 6) dX7_readForm_5 rfl ?_
  refine jk_istore5 (q := 8) dX7_readForm_6 rfl rfl rfl ?_
  have L8 : ∀ k8 : Nat, k8 ≤ zs_len i → ∀ (x : md_PS × Nat × (Int → Int)), (hx : ((zs_tx i).drop k8).foldl (cs_st Bf ty) x = (cs_fo Bf ty (zs_tx i) p r)) → (hsx : md_sok ty x.1.1) → (hxn : x.2.1 ≤ k8) → jk_J G mX7_readForm 8 [some (.ref q), some (.ref (21 + i)), some (.ref d), some (jI (x.2.1 : Int)), some (jI (jB (!x.1.2))), some (jI (k8 : Int)), none, none] [] n t (cs_F σ q d x.1.1 x.2.2) ρ 0 0 (jk_q (some (jI (jB (!(cs_fo Bf ty (zs_tx i) p r).1.2)))) n t (cs_F σ q d (cs_fo Bf ty (zs_tx i) p r).1.1 (cs_fo Bf ty (zs_tx i) p r).2.2) ρ) jk_no := by
    refine jk_loop _ (fun k8 hk8 ih8 => ?_)
    intro x hx hsx hxn
    have hs1 := hsx.1
    have hs2 := hsx.2
    refine jk_iload (q := 10) dX7_readForm_8 rfl rfl ?_
    refine jk_aload_n (q := 11) dX7_readForm_10 rfl rfl ?_
    refine jk_callVO (q := 14) (mc := 0) (ms := 0) (As := []) (zz_sO hz hi) (c_J0_length hz hi) jm_J0_length_8abf5 jw_1525 rfl (by decide) (Nat.le_of_ble_eq_true rfl) (Nat.zero_le _) (Nat.zero_le _) (fun x hx => by cases hx) dX7_readForm_11 rfl (fun v' n' t' σ' ρ' hq => ?_) (fun _ _ _ _ _ h => h.elim)
    obtain ⟨rfl, rfl, rfl, rfl, rfl⟩ := hq
    simp only [Option.toList_some, List.cons_append, List.nil_append, Nat.sub_zero]
    refine jk_icmp_ge (q := 89) (q2 := 17) dX7_readForm_14 rfl rfl (by first | assumption | decide | omega | exact jB_01 _ | exact jB_in _ | exact hB _ ⟨by omega, by omega⟩ | exact ⟨by omega, by omega⟩) (by first | assumption | decide | omega | exact jB_01 _ | exact jB_in _ | exact hB _ ⟨by omega, by omega⟩ | exact ⟨by omega, by omega⟩) (fun z1 => ?_) (fun z1 => ?_)
    · refine jk_iload (q := 91) dX7_readForm_89 rfl rfl ?_
      exact jk_zret rfl (by first | assumption | decide | omega | exact jB_01 _ | exact jB_in _ | exact hB _ ⟨by omega, by omega⟩ | exact ⟨by omega, by omega⟩) dX7_readForm_91 (by first | (rw [← hx, cs_drop0 (by omega)]; exact jk_qr) | (rw [← hx, cs_fold_f (by revert z2; cases x.1.2 <;> decide)]; exact jk_qr))
    · refine jk_iload (q := 19) dX7_readForm_17 rfl rfl ?_
      refine jk_ifB_eq (q := 89) (q2 := 22) dX7_readForm_19 rfl rfl (fun z2 => ?_) (fun z2 => ?_)
      · refine jk_iload (q := 91) dX7_readForm_89 rfl rfl ?_
        exact jk_zret rfl (by first | assumption | decide | omega | exact jB_01 _ | exact jB_in _ | exact hB _ ⟨by omega, by omega⟩ | exact ⟨by omega, by omega⟩) dX7_readForm_91 (by first | (rw [← hx, cs_drop0 (by omega)]; exact jk_qr) | (rw [← hx, cs_fold_f (by revert z2; cases x.1.2 <;> decide)]; exact jk_qr))
      · have hc9 := zs_cp i hi k8 (by omega)
        have hm9 := zm_bd (zs_ch i k8)
        have hxf : x.1.2 = false := by revert z2; cases x.1.2 <;> decide
        refine jk_aload_n (q := 23) dX7_readForm_22 rfl rfl ?_
        refine jk_iload (q := 25) dX7_readForm_23 rfl rfl ?_
        refine jk_callVO (q := 28) (mc := 0) (ms := 0) (As := [jI (k8 : Int)]) (zz_sO hz hi) (c_J0_charAt hz hi hv (j := (k8 : Int)) ⟨by omega, by omega⟩) jm_J0_charAt_5068e jw_1530 rfl (by decide) (Nat.le_of_ble_eq_true rfl) (Nat.zero_le _) (Nat.zero_le _) (fun x hx => by cases hx) dX7_readForm_25 rfl (fun v' n' t' σ' ρ' hq => ?_) (fun _ _ _ _ _ h => h.elim)
        obtain ⟨rfl, rfl, rfl, rfl, rfl⟩ := hq
        simp only [Option.toList_some, List.cons_append, List.nil_append, Nat.sub_zero]
        rw [show ((k8 : Nat) : Int).toNat = k8 from Int.toNat_natCast k8]
        refine jk_istore6 (q := 30) dX7_readForm_28 rfl rfl rfl ?_
        refine jk_iload (q := 32) dX7_readForm_30 rfl rfl ?_
        refine jk_cS1p (q := 35) (c_X7_mostDigits (c := zs_ch i k8) ⟨by omega, by omega⟩) jm_X7_mostDigits jw_1550 rfl rfl rfl dX7_readForm_32 rfl ?_
        refine jk_istore7 (q := 37) dX7_readForm_35 rfl rfl rfl ?_
        refine jk_iload (q := 39) dX7_readForm_37 rfl rfl ?_
        refine jk_if_ne (q := 53) (q2 := 42) dX7_readForm_39 rfl rfl (by first | assumption | decide | omega | exact jB_01 _ | exact jB_in _ | exact hB _ ⟨by omega, by omega⟩ | exact ⟨by omega, by omega⟩) (fun z3 => ?_) (fun z3 => ?_)
        · refine jk_iload_n (q := 54) dX7_readForm_53 rfl rfl ?_
          refine jk_iconst (q := 55) dX7_readForm_54 rfl ?_
          refine jk_icmp_ge (q := 83) (q2 := 58) dX7_readForm_55 rfl rfl (by first | assumption | decide | omega | exact jB_01 _ | exact jB_in _ | exact hB _ ⟨by omega, by omega⟩ | exact ⟨by omega, by omega⟩) (by first | assumption | decide | omega | exact jB_01 _ | exact jB_in _ | exact hB _ ⟨by omega, by omega⟩ | exact ⟨by omega, by omega⟩) (fun z4 => ?_) (fun z4 => ?_)
          · refine jk_iinc5 (q := 86) dX7_readForm_83 rfl rfl rfl ?_
            refine jk_goto (q := 8) dX7_readForm_86 rfl ?_
            have e9 := cs_st_o (Bf := Bf) (ty := ty) (c := zs_ch i k8) hxf (by omega) (by omega)
            have h9 := ih8 (by omega) (cs_st Bf ty x (zs_ch i k8)) (by rw [← hx, cs_drop (k := k8) (by omega), List.foldl_cons]) (cs_st_ok hB hty (by omega) hsx) (by have := cs_st_n (Bf := Bf) (ty := ty) (s := x) (c := zs_ch i k8); omega)
            rw [e9] at h9
            try dsimp only at h9
            refine jk_convw h9 (jk_wkS rfl (jk_wkS rfl (jk_wkS rfl (jk_wkS (jk_li (by omega)) (jk_wkS rfl (jk_wkS (jk_li (by omega)) (jk_wkN (jk_wkN jk_wk0))))))))
          · refine jk_aload_n (q := 59) dX7_readForm_58 rfl rfl ?_
            refine jk_iload (q := 61) dX7_readForm_59 rfl rfl ?_
            refine jk_iload (q := 63) dX7_readForm_61 rfl rfl ?_
            refine jk_bipush (q := 65) (y := 118) dX7_readForm_63 rfl (by decide) ?_
            refine jk_icmp_ne (q := 72) (q2 := 68) dX7_readForm_65 rfl rfl (by first | assumption | decide | omega | exact jB_01 _ | exact jB_in _ | exact hB _ ⟨by omega, by omega⟩ | exact ⟨by omega, by omega⟩) (by first | assumption | decide | omega | exact jB_01 _ | exact jB_in _ | exact hB _ ⟨by omega, by omega⟩ | exact ⟨by omega, by omega⟩) (fun z5 => ?_) (fun z5 => ?_)
            · refine jk_iconst (q := 73) dX7_readForm_72 rfl ?_
              refine jk_aload_n (q := 74) dX7_readForm_73 rfl rfl ?_
              refine jk_iload_n (q := 75) dX7_readForm_74 rfl rfl ?_
              refine jk_cV4p (q := 78) (c_X7_readArgument (p := x.1.1) (r := x.2.2) (most := zm_d (zs_ch i k8)) (a := (x.2.1 : Int)) (sg := false) hq hs hb hB hty hd hd2 hsx ⟨by omega, by omega⟩ ⟨by omega, by omega⟩ htd) jm_X7_readArgument jw_1557 rfl (by first | exact hq.1.1 | exact hq.1.2.1 | assumption) rfl rfl rfl dX7_readForm_75 rfl ?_
              refine jk_istore4 (q := 80) dX7_readForm_78 rfl rfl rfl ?_
              refine jk_iinc3 (q := 83) dX7_readForm_80 rfl rfl rfl ?_
              refine jk_iinc5 (q := 86) dX7_readForm_83 rfl rfl rfl ?_
              refine jk_goto (q := 8) dX7_readForm_86 rfl ?_
              have e9 := cs_st_a (Bf := Bf) (ty := ty) (c := zs_ch i k8) (sg := false) hxf (by omega) (by omega) (decide_eq_false (by omega))
              have h9 := ih8 (by omega) (cs_st Bf ty x (zs_ch i k8)) (by rw [← hx, cs_drop (k := k8) (by omega), List.foldl_cons]) (cs_st_ok hB hty (by omega) hsx) (by have := cs_st_n (Bf := Bf) (ty := ty) (s := x) (c := zs_ch i k8); omega)
              rw [e9] at h9
              try dsimp only at h9
              refine jk_convw h9 (jk_wkS rfl (jk_wkS rfl (jk_wkS rfl (jk_wkS (jk_li (by omega)) (jk_wkS rfl (jk_wkS (jk_li (by omega)) (jk_wkN (jk_wkN jk_wk0))))))))
            · refine jk_iconst (q := 69) dX7_readForm_68 rfl ?_
              refine jk_goto (q := 73) dX7_readForm_69 rfl ?_
              refine jk_aload_n (q := 74) dX7_readForm_73 rfl rfl ?_
              refine jk_iload_n (q := 75) dX7_readForm_74 rfl rfl ?_
              refine jk_cV4p (q := 78) (c_X7_readArgument (p := x.1.1) (r := x.2.2) (most := zm_d (zs_ch i k8)) (a := (x.2.1 : Int)) (sg := true) hq hs hb hB hty hd hd2 hsx ⟨by omega, by omega⟩ ⟨by omega, by omega⟩ htd) jm_X7_readArgument jw_1557 rfl (by first | exact hq.1.1 | exact hq.1.2.1 | assumption) rfl rfl rfl dX7_readForm_75 rfl ?_
              refine jk_istore4 (q := 80) dX7_readForm_78 rfl rfl rfl ?_
              refine jk_iinc3 (q := 83) dX7_readForm_80 rfl rfl rfl ?_
              refine jk_iinc5 (q := 86) dX7_readForm_83 rfl rfl rfl ?_
              refine jk_goto (q := 8) dX7_readForm_86 rfl ?_
              have e9 := cs_st_a (Bf := Bf) (ty := ty) (c := zs_ch i k8) (sg := true) hxf (by omega) (by omega) (decide_eq_true (by omega))
              have h9 := ih8 (by omega) (cs_st Bf ty x (zs_ch i k8)) (by rw [← hx, cs_drop (k := k8) (by omega), List.foldl_cons]) (cs_st_ok hB hty (by omega) hsx) (by have := cs_st_n (Bf := Bf) (ty := ty) (s := x) (c := zs_ch i k8); omega)
              rw [e9] at h9
              try dsimp only at h9
              refine jk_convw h9 (jk_wkS rfl (jk_wkS rfl (jk_wkS rfl (jk_wkS (jk_li (by omega)) (jk_wkS rfl (jk_wkS (jk_li (by omega)) (jk_wkN (jk_wkN jk_wk0))))))))
        · refine jk_aload_n (q := 43) dX7_readForm_42 rfl rfl ?_
          refine jk_iload (q := 45) dX7_readForm_43 rfl rfl ?_
          refine jk_cV1p (q := 48) (c_X7_readSign (p := x.1.1) (r := x.2.2) (c := zs_ch i k8) hq hs hb hB hty hd hd2 hsx ⟨by omega, by omega⟩) jm_X7_readSign jw_1553 rfl (by first | exact hq.1.1 | exact hq.1.2.1 | assumption) rfl rfl rfl dX7_readForm_45 rfl ?_
          refine jk_istore4 (q := 50) dX7_readForm_48 rfl rfl rfl ?_
          refine jk_goto (q := 83) dX7_readForm_50 rfl ?_
          refine jk_iinc5 (q := 86) dX7_readForm_83 rfl rfl rfl ?_
          refine jk_goto (q := 8) dX7_readForm_86 rfl ?_
          have e9 := cs_st_s (Bf := Bf) (ty := ty) (c := zs_ch i k8) hxf (by omega)
          have h9 := ih8 (by omega) (cs_st Bf ty x (zs_ch i k8)) (by rw [← hx, cs_drop (k := k8) (by omega), List.foldl_cons]) (cs_st_ok hB hty (by omega) hsx) (by have := cs_st_n (Bf := Bf) (ty := ty) (s := x) (c := zs_ch i k8); omega)
          rw [e9] at h9
          try dsimp only at h9
          refine jk_convw h9 (jk_wkS rfl (jk_wkS rfl (jk_wkS rfl (jk_wkS (jk_li (by omega)) (jk_wkS rfl (jk_wkS (jk_li (by omega)) (jk_wkN (jk_wkN jk_wk0))))))))
  exact jk_convw (L8 0 (Nat.zero_le _) ((p, false), 0, r) rfl hp (Nat.le_refl _)) (jk_wkS rfl (jk_wkS rfl (jk_wkS rfl (jk_wkS rfl (jk_wkS rfl (jk_wkS rfl (jk_wkN (jk_wkN jk_wk0))))))))
theorem c_X7_readWord {G : jk_G} {n : Nat} {t : jk_T} {σ : jk_I} {ρ : jk_P} {q d : Nat} {Bf r : Int → Int} {ty p : Int}  (hq : sc_at t ρ q) (hs : σ q 1 = ty) (hb : σ (q + 2) = Bf) (hB : ∀ j, 0 ≤ j ∧ j < 60 → 0 ≤ Bf j ∧ Bf j < 65536) (hty : 0 ≤ ty ∧ ty ≤ 60) (hd : d ≠ q) (hd2 : d ≠ q + 2) (hz : zz_ok G) (hv : zv_ok G) (hp : md_sok ty p) : jk_K G yX7_readWord mX7_readWord 0 0 [.ref q] n t (cs_F σ q d p r) ρ (jk_q (some (cs_kv (cs_wd Bf ty p 12 0 0).1)) n t (cs_F σ q d (p + ((cs_wd Bf ty p 12 0 0).2 : Nat)) r) ρ) jk_no := by
  have hb2 : ∀ p r, cs_F σ q d p r (q + 2) = Bf := fun p r => (cs_F_ne (by omega) (Ne.symm hd2) σ p r).trans hb
  have hp1 := hp.1
  have hp2 := hp.2
  refine jk_entryB (ls := [some (.ref q), none, none, none]) jm_X7_readWord.1 rfl rfl rfl ?_
  refine jk_iconst (q := 1) dX7_readWord_0 rfl ?_
  refine jk_istore1 (q := 2) dX7_readWord_1 rfl rfl rfl ?_
  refine jk_iconst (q := 3) dX7_readWord_2 rfl ?_
  refine jk_istore2 (q := 4) dX7_readWord_3 rfl rfl rfl ?_
  have L4 : ∀ k4 : Nat, k4 ≤ 12 → ∀ (f : Nat), (hk : cs_wd Bf ty p (12 - k4) k4 f = (cs_wd Bf ty p 12 0 0)) → (hf9 : f ≤ 8) → jk_J G mX7_readWord 4 [some (.ref q), some (jI (f : Int)), some (jI (k4 : Int)), none] [] n t (cs_F σ q d p r) ρ 0 0 (jk_q (some (cs_kv (cs_wd Bf ty p 12 0 0).1)) n t (cs_F σ q d (p + ((cs_wd Bf ty p 12 0 0).2 : Nat)) r) ρ) jk_no := by
    refine jk_loop _ (fun k4 hk4 ih4 => ?_)
    intro f hk hf9
    refine jk_iload_n (q := 5) dX7_readWord_4 rfl rfl ?_
    refine jk_getsN (q := 8) (a := 18) (zz_KS hz) jw_1519 dX7_readWord_5 rfl ?_
    refine jk_tlen (q := 9) (zz_KSt hz) dX7_readWord_8 rfl ?_
    refine jk_icmp_ge (q := 68) (q2 := 12) dX7_readWord_9 rfl rfl (by first | assumption | decide | omega | exact jB_01 _ | exact jB_in _ | exact hB _ ⟨by omega, by omega⟩ | exact ⟨by omega, by omega⟩) (by first | assumption | decide | omega | exact jB_01 _ | exact jB_in _ | exact hB _ ⟨by omega, by omega⟩ | exact ⟨by omega, by omega⟩) (fun z1 => ?_) (fun z1 => ?_)
    · refine jk_aload_n (q := 69) dX7_readWord_68 rfl rfl ?_
      refine jk_dup (q := 70) dX7_readWord_69 rfl rfl ?_
      refine jk_getIR (q := 73) (k := 7) 2 2 rfl (by first | exact hq.1.1 | exact hq.1.2.1 | assumption) (by first | exact hb2 _ _ | exact cs_F_q _ _ _ _ _ | exact cs_F_d hd _ _ _ | rfl) rfl rfl jw_320 dX7_readWord_70 rfl ?_
      rw [jk_set_at]
      refine jk_iload_n (q := 74) dX7_readWord_73 rfl rfl ?_
      refine jk_iadd (q := 75) dX7_readWord_74 rfl ?_
      refine jk_putIR (q := 78) (k := 7) 2 2 rfl (by first | exact hq.1.1 | exact hq.1.2.1 | assumption) (by first | exact hb2 _ _ | exact cs_F_q _ _ _ _ _ | exact cs_F_d hd _ _ _ | rfl) rfl rfl rfl jw_320 dX7_readWord_75 rfl ?_
      rw [cs_F_p]
      refine jk_null (q := 79) dX7_readWord_78 rfl ?_
      exact jk_aretg rfl (by first | exact Or.inl ⟨_, rfl⟩ | exact Or.inr ⟨_, rfl⟩) (Or.inl rfl) dX7_readWord_79 (by rw [show cs_wd Bf ty p 12 0 0 = (none, f) by (rw [← hk, show 12 - k4 = 0 by omega]; rfl)]; exact jk_qr)
    · refine jk_aload_n (q := 13) dX7_readWord_12 rfl rfl ?_
      refine jk_getsN (q := 16) (a := 18) (zz_KS hz) jw_1519 dX7_readWord_13 rfl ?_
      refine jk_iload_n (q := 17) dX7_readWord_16 rfl rfl ?_
      refine jk_tabq (q := 18) (zz_KSt hz) (by first | decide | omega) (by first | assumption | decide | omega | exact jB_01 _ | exact jB_in _ | exact hB _ ⟨by omega, by omega⟩ | exact ⟨by omega, by omega⟩) dX7_readWord_17 rfl ?_
      rw [show ((k4 : Nat) : Int).toNat = k4 from Int.toNat_natCast k4]
      refine jk_oget (q := 21) (v := .ref (21 + k4)) (zz_word hz (k := k4) (by omega)) jw_1784 dX7_readWord_18 rfl ?_
      refine jk_cV1p (q := 24) (c_X7_fittingSigns (i := k4) hq hs hb hB hty hd hd2 hz hv (by omega) hp) jm_X7_fittingSigns jw_1521 rfl (by first | exact hq.1.1 | exact hq.1.2.1 | assumption) rfl rfl rfl dX7_readWord_21 rfl ?_
      refine jk_istore3 (q := 25) dX7_readWord_24 rfl rfl rfl ?_
      have hl8 := zs_ln k4 (by omega)
      have hfl : cs_ft Bf ty p (zs_tx k4) ≤ zs_len k4 := cs_ft_le _ _
      refine jk_iload_n (q := 26) dX7_readWord_25 rfl rfl ?_
      refine jk_getsN (q := 29) (a := 18) (zz_KS hz) jw_1519 dX7_readWord_26 rfl ?_
      refine jk_iload_n (q := 30) dX7_readWord_29 rfl rfl ?_
      refine jk_tabq (q := 31) (zz_KSt hz) (by first | decide | omega) (by first | assumption | decide | omega | exact jB_01 _ | exact jB_in _ | exact hB _ ⟨by omega, by omega⟩ | exact ⟨by omega, by omega⟩) dX7_readWord_30 rfl ?_
      rw [show ((k4 : Nat) : Int).toNat = k4 from Int.toNat_natCast k4]
      refine jk_oget (q := 34) (v := .ref (21 + k4)) (zz_word hz (k := k4) (by omega)) jw_1784 dX7_readWord_31 rfl ?_
      refine jk_callVO (q := 37) (mc := 0) (ms := 0) (As := []) (zz_sO hz (i := k4) (by omega)) (c_J0_length hz (i := k4) (by omega)) jm_J0_length_8abf5 jw_1525 rfl (by decide) (Nat.le_of_ble_eq_true rfl) (Nat.zero_le _) (Nat.zero_le _) (fun x hx => by cases hx) dX7_readWord_34 rfl (fun v' n' t' σ' ρ' hq => ?_) (fun _ _ _ _ _ h => h.elim)
      obtain ⟨rfl, rfl, rfl, rfl, rfl⟩ := hq
      simp only [Option.toList_some, List.cons_append, List.nil_append, Nat.sub_zero]
      refine jk_icmp_ne (q := 56) (q2 := 40) dX7_readWord_37 rfl rfl (by first | assumption | decide | omega | exact jB_01 _ | exact jB_in _ | exact hB _ ⟨by omega, by omega⟩ | exact ⟨by omega, by omega⟩) (by first | assumption | decide | omega | exact jB_01 _ | exact jB_in _ | exact hB _ ⟨by omega, by omega⟩ | exact ⟨by omega, by omega⟩) (fun z2 => ?_) (fun z2 => ?_)
      · refine jk_iload_n (q := 57) dX7_readWord_56 rfl rfl ?_
        refine jk_iload_n (q := 58) dX7_readWord_57 rfl rfl ?_
        refine jk_mmax (q := 61) jw_1545 rfl rfl (by first | assumption | decide | omega | exact jB_01 _ | exact jB_in _ | exact hB _ ⟨by omega, by omega⟩ | exact ⟨by omega, by omega⟩) (by first | assumption | decide | omega | exact jB_01 _ | exact jB_in _ | exact hB _ ⟨by omega, by omega⟩ | exact ⟨by omega, by omega⟩) dX7_readWord_58 rfl ?_
        refine jk_istore1 (q := 62) dX7_readWord_61 rfl rfl rfl ?_
        rw [cs_mx]
        refine jk_iinc2 (q := 65) dX7_readWord_62 rfl rfl rfl ?_
        refine jk_goto (q := 4) dX7_readWord_65 rfl ?_
        refine jk_convw (ih4 (by omega) _ ?_ ?_) (jk_wkS rfl (jk_wkS rfl (jk_wkS (jk_li (by omega)) (jk_wkN jk_wk0))))
        · rw [← hk, show 12 - k4 = (12 - (k4 + 1)) + 1 by omega]
          conv => rhs; unfold cs_wd
          rw [if_neg (show ¬ cs_ft Bf ty p (zs_tx k4) = zs_len k4 by omega)]
        · split <;> omega
      · refine jk_aload_n (q := 41) dX7_readWord_40 rfl rfl ?_
        refine jk_dup (q := 42) dX7_readWord_41 rfl rfl ?_
        refine jk_getIR (q := 45) (k := 7) 2 2 rfl (by first | exact hq.1.1 | exact hq.1.2.1 | assumption) (by first | exact hb2 _ _ | exact cs_F_q _ _ _ _ _ | exact cs_F_d hd _ _ _ | rfl) rfl rfl jw_320 dX7_readWord_42 rfl ?_
        rw [jk_set_at]
        refine jk_iload_n (q := 46) dX7_readWord_45 rfl rfl ?_
        refine jk_iadd (q := 47) dX7_readWord_46 rfl ?_
        refine jk_putIR (q := 50) (k := 7) 2 2 rfl (by first | exact hq.1.1 | exact hq.1.2.1 | assumption) (by first | exact hb2 _ _ | exact cs_F_q _ _ _ _ _ | exact cs_F_d hd _ _ _ | rfl) rfl rfl rfl jw_320 dX7_readWord_47 rfl ?_
        rw [cs_F_p]
        refine jk_getsN (q := 53) (a := 18) (zz_KS hz) jw_1519 dX7_readWord_50 rfl ?_
        refine jk_iload_n (q := 54) dX7_readWord_53 rfl rfl ?_
        refine jk_tabq (q := 55) (zz_KSt hz) (by first | decide | omega) (by first | assumption | decide | omega | exact jB_01 _ | exact jB_in _ | exact hB _ ⟨by omega, by omega⟩ | exact ⟨by omega, by omega⟩) dX7_readWord_54 rfl ?_
        rw [show ((k4 : Nat) : Int).toNat = k4 from Int.toNat_natCast k4]
        exact jk_aret rfl (by first | exact Or.inl ⟨_, rfl⟩ | exact Or.inr ⟨_, rfl⟩) dX7_readWord_55 (by rw [show cs_wd Bf ty p 12 0 0 = (some k4, zs_len k4) by (rw [← hk, show 12 - k4 = (12 - (k4 + 1)) + 1 by omega]; unfold cs_wd; rw [if_pos (by omega)])]; refine jk_qP rfl ?_; congr 1; omega)
  exact L4 0 (Nat.zero_le _) 0 rfl (by decide)
end S2
