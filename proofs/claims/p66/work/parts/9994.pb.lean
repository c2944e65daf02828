section PB
theorem jm_J5_append_cf1ce : jk_me yJ5_append_cf1ce mJ5_append_cf1ce 1 ∧ Cond.instanceMethod yJ5_append_cf1ce ∈ jk_WS := ⟨⟨jw_1220, jw_11, ⟨by decide +kernel, by decide +kernel⟩, by decide +kernel, by decide +kernel, rfl, by decide, fun h => absurd h (by decide), rfl⟩, jw_1219⟩
theorem jm_J5_getValue_6d5f1 : jk_me yJ5_getValue_6d5f1 mJ5_getValue_6d5f1 0 ∧ Cond.instanceMethod yJ5_getValue_6d5f1 ∈ jk_WS := ⟨⟨jw_1372, jw_11, ⟨by decide +kernel, by decide +kernel⟩, by decide +kernel, by decide +kernel, rfl, by decide, fun h => absurd h (by decide), rfl⟩, jw_1369⟩
theorem jm_J5_inflateIfNeededFor_a7421 : jk_me yJ5_inflateIfNeededFor_a7421 mJ5_inflateIfNeededFor_a7421 1 ∧ Cond.instanceMethod yJ5_inflateIfNeededFor_a7421 ∈ jk_WS := ⟨⟨jw_1303, jw_11, ⟨by decide +kernel, by decide +kernel⟩, by decide +kernel, by decide +kernel, rfl, by decide, fun h => absurd h (by decide), rfl⟩, jw_1302⟩
theorem jm_J5_putStringAt_47b60 : jk_me yJ5_putStringAt_47b60 mJ5_putStringAt_47b60 2 ∧ Cond.instanceMethod yJ5_putStringAt_47b60 ∈ jk_WS := ⟨⟨jw_1299, jw_11, ⟨by decide +kernel, by decide +kernel⟩, by decide +kernel, by decide +kernel, rfl, by decide, fun h => absurd h (by decide), rfl⟩, jw_1298⟩
/-- a text of the launch's own at a, its bytes at b -/
def so_ok (G : jk_G) (a b : Nat) (L : List Int) : Prop := (L.length ≤ 100 ∧ ∀ j : Nat, j < L.length → 0 ≤ L.getD j 0 ∧ L.getD j 0 < 128) ∧ ∀ s, jk_Z G s → va_O "java/lang/String" (jk_ad G a) (jk_A G) s s.heap ∧ va_OF "java/lang/String" "value" "[B" (.ref (jk_ad G b)) (jk_ad G a) (jk_A G) s s.heap ∧ va_OF "java/lang/String" "coder" "B" (jI 0) (jk_ad G a) (jk_A G) s s.heap ∧ va_T .byte (jk_ad G b) L.length (fun j => jI (L.getD j 0)) (jk_A G) s s.heap
/-- a text made at a, its bytes at b -/
def sm_is (t : jk_T) (ρ : jk_P) (σ : jk_I) (a b : Nat) (L : List Int) : Prop := t a = some (.inr 13) ∧ t b = some (.inl (.byte, L.length)) ∧ ρ a 0 = some b ∧ σ a 1 = 0 ∧ L.length ≤ 200 ∧ ∀ i : Nat, i < L.length → σ b (i : Int) = L.getD i 0 ∧ 0 ≤ L.getD i 0 ∧ L.getD i 0 < 128
/-- a StringBuilder at b, its bytes at v, K of them: it holds L -/
def be_is (t : jk_T) (ρ : jk_P) (σ : jk_I) (b v K : Nat) (L : List Int) : Prop := bu_at t ρ σ b v K ∧ K ≤ 200 ∧ σ b 3 = (L.length : Int) ∧ L.length ≤ K ∧ (∀ j : Int, 0 ≤ j ∧ j < (K : Int) → 0 ≤ σ v j ∧ σ v j < 128) ∧ ∀ i : Nat, i < L.length → σ v (i : Int) = L.getD i 0
def be_Q (r : Option Value) (b v n : Nat) (t : jk_T) (σ : jk_I) (ρ : jk_P) (L : List Int) (m : Nat) : jk_Q := fun v' n' t' σ' ρ' => v' = r ∧ ∃ w K, be_is t' ρ' σ' b w K L ∧ m ≤ K ∧ bd_fr b v n t σ ρ w n' t' σ' ρ'
def be_gS (σ : jk_I) (n v K K2 : Nat) : jk_I := jk_row (jk_zr σ n 0) n (fun j => if 0 ≤ j ∧ j < (K : Int) then jk_zr σ n 0 v j else jk_zr σ n 0 n j)
theorem be_grow {b v n K K2 : Nat} {t : jk_T} {σ : jk_I} {ρ : jk_P} {L : List Int} (h : be_is t ρ σ b v K L) (hb : b < n) (hv : v < n) (hK : K ≤ K2) (hK2 : K2 ≤ 200) : be_is (jk_tg t n (.inl (.byte, K2))) (jk_up (jk_zr ρ n none) b 0 (some n)) (be_gS σ n v K K2) b n K2 L ∧ bd_fr b v n t σ ρ n (n + 2) (jk_tg t n (.inl (.byte, K2))) (be_gS σ n v K K2) (jk_up (jk_zr ρ n none) b 0 (some n)) := by
  obtain ⟨⟨h1, h2, h3, h4, h5, h6⟩, hK0, h7, h8, h9, h10⟩ := h
  have eσ : ∀ a, a ≠ n → be_gS σ n v K K2 a = σ a := fun a ha => by unfold be_gS; rw [jk_row_ne _ _ ha, jk_zr_row _ _ ha]
  have en : ∀ j : Int, be_gS σ n v K K2 n j = if 0 ≤ j ∧ j < (K : Int) then σ v j else 0 := fun j => by
    unfold be_gS
    rw [jk_row_same, jk_zr_row _ _ (show v ≠ n by omega)]
    split
    · rfl
    · unfold jk_zr; rw [if_pos rfl]
  have et : ∀ a, a ≠ n → jk_tg t n (.inl (.byte, K2)) a = t a := fun a ha => if_neg ha
  refine ⟨⟨⟨(et b (by omega)).trans h1, if_pos rfl, by unfold jk_up; rw [if_pos ⟨rfl, rfl⟩], by rw [eσ b (by omega)]; exact h4, by omega, hb⟩, hK2, by rw [eσ b (by omega)]; exact h7, by omega, fun j hj => ?_, fun i hi => ?_⟩, Or.inr (Nat.le_refl _), by omega, by omega, fun a ha => et a (by omega), fun a ha hab => ?_, fun a ha hab hav => eσ a (by omega)⟩
  · rw [en j]
    split
    · exact h9 j (by omega)
    · exact ⟨by decide, by decide⟩
  · rw [en, if_pos (by omega)]; exact h10 i hi
  · funext j
    unfold jk_up
    rw [if_neg (fun h => hab h.1), jk_zr_row _ _ (by omega)]
theorem be_new {t : jk_T} {ρ : jk_P} {σ : jk_I} {b : Nat} (h : bu_at t ρ σ b (b + 2) 16) (h3 : σ b 3 = 0) (hz : ∀ j, σ (b + 2) j = 0) : be_is t ρ σ b (b + 2) 16 [] := ⟨h, by decide, h3, Nat.zero_le _, fun j _ => by rw [hz j]; exact ⟨by decide, by decide⟩, fun i hi => absurd hi (Nat.not_lt_zero i)⟩
theorem be_same {t t' : jk_T} {ρ ρ' : jk_P} {σ σ' : jk_I} {b v K : Nat} {L : List Int} (h : be_is t ρ σ b v K L) (hb : t' b = t b ∧ ρ' b = ρ b ∧ σ' b = σ b) (hv : t' v = t v ∧ σ' v = σ v) : be_is t' ρ' σ' b v K L := by
  obtain ⟨⟨h1, h2, h3, h4, h5, h6⟩, hK0, h7, h8, h9, h10⟩ := h
  obtain ⟨e1, e2, e3⟩ := hb
  obtain ⟨f1, f2⟩ := hv
  exact ⟨⟨e1.trans h1, f1.trans h2, by rw [e2]; exact h3, by rw [e3]; exact h4, h5, h6⟩, hK0, by rw [e3]; exact h7, h8, fun j hj => by rw [f2]; exact h9 j hj, fun i hi => by rw [f2]; exact h10 i hi⟩
/-- a list written behind -/
theorem be_appL {t : jk_T} {ρ : jk_P} {σ σ' : jk_I} {b v K : Nat} {L A : List Int} (h : be_is t ρ σ b v K L) (hK : L.length + A.length ≤ K) (hA : ∀ i : Nat, i < A.length → 0 ≤ A.getD i 0 ∧ A.getD i 0 < 128) (eb : σ' b = jk_set (σ b) 3 ((L.length : Int) + (A.length : Nat))) (ev : ∀ j : Int, σ' v j = if (L.length : Int) ≤ j ∧ j < (L.length : Int) + (A.length : Nat) then A.getD (j - (L.length : Int)).toNat 0 else σ v j) : be_is t ρ σ' b v K (L ++ A) := by
  obtain ⟨⟨h1, h2, h3, h4, h5, h6⟩, hK2, h7, h8, h9, h10⟩ := h
  refine ⟨⟨h1, h2, h3, by rw [eb, jk_set_ne _ _ (by decide)]; exact h4, h5, h6⟩, hK2, by rw [eb, jk_set_at, List.length_append]; omega, by rw [List.length_append]; exact hK, fun j hj => ?_, fun i hi => ?_⟩
  · rw [ev j]
    split
    · exact hA _ (by omega)
    · exact h9 j hj
  · rw [List.length_append] at hi
    rw [ev]
    by_cases e : i < L.length
    · rw [if_neg (by omega), h10 i e, List.getD_eq_getElem?_getD, List.getD_eq_getElem?_getD, List.getElem?_append_left e]
    · rw [if_pos (by omega), show ((i : Int) - (L.length : Int)).toNat = i - L.length by omega, List.getD_eq_getElem?_getD, List.getD_eq_getElem?_getD, List.getElem?_append_right (by omega)]
theorem be_appN {t : jk_T} {ρ : jk_P} {σ : jk_I} {b v K : Nat} {L : List Int} {x : Int} (h : be_is t ρ σ b v K L) (hK : L.length + (md_dgs x).length ≤ K) : be_is t ρ (jk_row (jk_row σ v (dg_out x ((L.length : Int) + ((md_dgs x).length : Nat)) (σ v))) b (jk_set (σ b) 3 ((L.length : Int) + ((md_dgs x).length : Nat)))) b v K (L ++ md_dgs x) := by
  obtain ⟨⟨h1, h2, h3, h4, h5, h6⟩, hK2, h7, h8, h9, h10⟩ := h
  have ev : (jk_row (jk_row σ v (dg_out x ((L.length : Int) + ((md_dgs x).length : Nat)) (σ v))) b (jk_set (σ b) 3 ((L.length : Int) + ((md_dgs x).length : Nat)))) v = dg_out x ((L.length : Int) + ((md_dgs x).length : Nat)) (σ v) := by rw [jk_row_ne _ _ (by omega), jk_row_same]
  refine ⟨⟨h1, h2, h3, by rw [jk_row_same, jk_set_ne _ _ (by decide)]; exact h4, h5, h6⟩, hK2, by rw [jk_row_same, jk_set_at, List.length_append]; omega, by rw [List.length_append]; exact hK, fun j hj => ?_, fun i hi => ?_⟩
  · rw [ev]; exact dg_out_bd (h9 j hj)
  · rw [List.length_append] at hi
    rw [ev]
    by_cases e : i < L.length
    · rw [dg_out_ne (by omega), h10 i e, List.getD_eq_getElem?_getD, List.getD_eq_getElem?_getD, List.getElem?_append_left e]
    · obtain ⟨j, rfl⟩ : ∃ j, i = L.length + j := ⟨i - L.length, by omega⟩
      have h11 := dg_out_get (v := x) (x := (L.length : Int) + ((md_dgs x).length : Nat)) (r := σ v) (i := j) (by omega)
      rw [show (L.length : Int) + ((md_dgs x).length : Nat) - ((md_dgs x).length : Nat) + (j : Int) = ((L.length + j : Nat) : Int) by omega] at h11
      rw [h11, List.getD_eq_getElem?_getD, List.getD_eq_getElem?_getD, List.getElem?_append_right (by omega), show L.length + j - L.length = j by omega]
theorem c_own_coder {G : jk_G} {n : Nat} {t : jk_T} {σ : jk_I} {ρ : jk_P} {a b9 : Nat} {L : List Int} (hz : zz_ok G) (hso : so_ok G a b9 L) : jk_K G yJ0_coder_7d493 mJ0_coder_7d493 0 0 [.ref a] n t σ ρ (jk_q (some (jI 0)) n t σ ρ) jk_no := by
  refine jk_entryB (ls := [some (.ref a)]) jm_J0_coder_7d493.1 rfl rfl rfl ?_
  refine jk_getsI (q := 3) (x := 1) (zz_cs hz) jw_1295 dJ0_coder_7d493_0 rfl ?_
  refine jk_ifN_eq (q := 6) (by decide) (by decide) dJ0_coder_7d493_3 rfl rfl ?_
  refine jk_aload_n (q := 7) dJ0_coder_7d493_6 rfl rfl ?_
  refine jk_oget (q := 10) (v := jI 0) (fun s hs => (hso.2 s hs).2.2.1) jw_1413 dJ0_coder_7d493_7 rfl ?_
  refine jk_goto (q := 14) dJ0_coder_7d493_10 rfl ?_
  exact jk_bret rfl (by first | assumption | decide | omega | exact jB_01 _ | exact jB_in _ | exact ⟨by omega, by omega⟩) dJ0_coder_7d493_14 (by first | exact jk_qr | (refine jk_qT ?_; grind) | (refine jk_qF ?_; grind) | (refine jk_qI ?_; grind))
theorem c_own_isLatin1 {G : jk_G} {n : Nat} {t : jk_T} {σ : jk_I} {ρ : jk_P} {a b9 : Nat} {L : List Int} (hz : zz_ok G) (hso : so_ok G a b9 L) : jk_K G yJ0_isLatin1_aae02 mJ0_isLatin1_aae02 0 0 [.ref a] n t σ ρ (jk_q (some (jI (jB true))) n t σ ρ) jk_no := by
  refine jk_entryB (ls := [some (.ref a)]) jm_J0_isLatin1_aae02.1 rfl rfl rfl ?_
  refine jk_getsI (q := 3) (x := 1) (zz_cs hz) jw_1295 dJ0_isLatin1_aae02_0 rfl ?_
  refine jk_ifN_eq (q := 6) (by decide) (by decide) dJ0_isLatin1_aae02_3 rfl rfl ?_
  refine jk_aload_n (q := 7) dJ0_isLatin1_aae02_6 rfl rfl ?_
  refine jk_oget (q := 10) (v := jI 0) (fun s hs => (hso.2 s hs).2.2.1) jw_1413 dJ0_isLatin1_aae02_7 rfl ?_
  refine jk_ifN_ne (q := 13) (by decide) (by decide) dJ0_isLatin1_aae02_10 rfl rfl ?_
  refine jk_iconst (q := 14) dJ0_isLatin1_aae02_13 rfl ?_
  refine jk_goto (q := 18) dJ0_isLatin1_aae02_14 rfl ?_
  exact jk_zret rfl (by first | assumption | decide | omega | exact jB_01 _ | exact jB_in _ | exact ⟨by omega, by omega⟩) dJ0_isLatin1_aae02_18 (by first | exact jk_qr | (refine jk_qT ?_; grind) | (refine jk_qF ?_; grind) | (refine jk_qI ?_; grind))
theorem c_own_length {G : jk_G} {n : Nat} {t : jk_T} {σ : jk_I} {ρ : jk_P} {a b9 : Nat} {L : List Int} (hz : zz_ok G) (hso : so_ok G a b9 L) : jk_K G yJ0_length_8abf5 mJ0_length_8abf5 0 0 [.ref a] n t σ ρ (jk_q (some (jI ((L.length : Nat) : Int))) n t σ ρ) jk_no := by
  refine jk_entryB (ls := [some (.ref a)]) jm_J0_length_8abf5.1 rfl rfl rfl ?_
  refine jk_aload_n (q := 1) dJ0_length_8abf5_0 rfl rfl ?_
  refine jk_oget (q := 4) (v := .ref b9) (fun s hs => (hso.2 s hs).2.1) jw_1412 dJ0_length_8abf5_1 rfl ?_
  refine jk_tlen (q := 5) (fun s hs => (hso.2 s hs).2.2.2) dJ0_length_8abf5_4 rfl ?_
  refine jk_aload_n (q := 6) dJ0_length_8abf5_5 rfl rfl ?_
  refine jk_callVO (q := 9) (mc := 0) (ms := 0) (As := []) (fun s hs => (hso.2 s hs).1) (c_own_coder hz hso) jm_J0_coder_7d493 jw_1291 rfl (by decide) (Nat.le_of_ble_eq_true rfl) (Nat.zero_le _) (Nat.zero_le _) (fun x hx => by cases hx) dJ0_length_8abf5_6 rfl (fun v' n' t' σ' ρ' hq => ?_) (fun _ _ _ _ _ h => h.elim)
  obtain ⟨rfl, rfl, rfl, rfl, rfl⟩ := hq
  simp only [Option.toList_some, List.cons_append, List.nil_append, Nat.sub_zero]
  refine jk_ishr0 (q := 10) dJ0_length_8abf5_9 rfl ?_
  exact jk_iret rfl dJ0_length_8abf5_10 jk_qr
theorem c_own1_charAt {G : jk_G} {n : Nat} {t : jk_T} {σ : jk_I} {ρ : jk_P} {a b9 : Nat} {L : List Int} {j : Int} (hz : zz_ok G) (hso : so_ok G a b9 L) (hv : zv_ok G) (hj : 0 ≤ j ∧ j < (L.length : Nat)) : jk_K G yJ1_charAt_3b067 mJ1_charAt_3b067 0 0 [.ref b9, jI j] n t σ ρ (jk_q (some (jI (L.getD j.toNat 0))) n t σ ρ) jk_no := by
  have hc := hso.1.2 j.toNat (by omega)
  have h100 := hso.1.1
  refine jk_entryB (ls := [some (.ref b9), some (jI j)]) jm_J1_charAt_3b067.1 rfl rfl rfl ?_
  refine jk_iload_n (q := 1) dJ1_charAt_3b067_0 rfl rfl ?_
  refine jk_aload_n (q := 2) dJ1_charAt_3b067_1 rfl rfl ?_
  refine jk_tlen (q := 3) ((fun s hs => (hso.2 s hs).2.2.2)) dJ1_charAt_3b067_2 rfl ?_
  refine jk_cS2v (q := 6) (c_J0_checkIndex hv hj (by omega)) jm_J0_checkIndex_df160 jw_1541 rfl rfl rfl dJ1_charAt_3b067_3 rfl ?_
  refine jk_aload_n (q := 7) dJ1_charAt_3b067_6 rfl rfl ?_
  refine jk_iload_n (q := 8) dJ1_charAt_3b067_7 rfl rfl ?_
  refine jk_tabb (q := 9) ((fun s hs => (hso.2 s hs).2.2.2)) (by first | decide | omega) (by first | assumption | decide | omega | exact jB_01 _ | exact jB_in _ | exact ⟨by omega, by omega⟩) dJ1_charAt_3b067_8 rfl ?_
  refine jk_sipush (q := 12) (y := 255) dJ1_charAt_3b067_9 rfl (by decide) ?_
  refine jk_iand255 (q := 13) dJ1_charAt_3b067_12 rfl (by first | assumption | decide | omega | exact jB_01 _ | exact jB_in _ | exact ⟨by omega, by omega⟩) ?_
  refine jk_i2c (q := 14) (by first | assumption | decide | omega | exact jB_01 _ | exact jB_in _ | exact ⟨by omega, by omega⟩) dJ1_charAt_3b067_13 rfl ?_
  exact jk_cret rfl (by first | assumption | decide | omega | exact jB_01 _ | exact jB_in _ | exact ⟨by omega, by omega⟩) dJ1_charAt_3b067_14 (by rw [show L.getD j.toNat 0 % 256 = L.getD j.toNat 0 by omega]; exact jk_qr)
theorem c_own_charAt {G : jk_G} {n : Nat} {t : jk_T} {σ : jk_I} {ρ : jk_P} {a b9 : Nat} {L : List Int} {j : Int} (hz : zz_ok G) (hso : so_ok G a b9 L) (hv : zv_ok G) (hj : 0 ≤ j ∧ j < (L.length : Nat)) : jk_K G yJ0_charAt_5068e mJ0_charAt_5068e 0 0 [.ref a, jI j] n t σ ρ (jk_q (some (jI (L.getD j.toNat 0))) n t σ ρ) jk_no := by
  have hc := hso.1.2 j.toNat (by omega)
  have h100 := hso.1.1
  refine jk_entryB (ls := [some (.ref a), some (jI j)]) jm_J0_charAt_5068e.1 rfl rfl rfl ?_
  refine jk_aload_n (q := 1) dJ0_charAt_5068e_0 rfl rfl ?_
  refine jk_callVO (q := 4) (mc := 0) (ms := 0) (As := []) (fun s hs => (hso.2 s hs).1) (c_own_isLatin1 hz hso) jm_J0_isLatin1_aae02 jw_1534 rfl (by decide) (Nat.le_of_ble_eq_true rfl) (Nat.zero_le _) (Nat.zero_le _) (fun x hx => by cases hx) dJ0_charAt_5068e_1 rfl (fun v' n' t' σ' ρ' hq => ?_) (fun _ _ _ _ _ h => h.elim)
  obtain ⟨rfl, rfl, rfl, rfl, rfl⟩ := hq
  simp only [Option.toList_some, List.cons_append, List.nil_append, Nat.sub_zero]
  refine jk_ifB_eq (q := 16) (q2 := 7) dJ0_charAt_5068e_4 rfl rfl (fun z1 => ?_) (fun z1 => ?_)
  · exact absurd ‹_› (by decide)
  · refine jk_aload_n (q := 8) dJ0_charAt_5068e_7 rfl rfl ?_
    refine jk_oget (q := 11) (v := .ref b9) (fun s hs => (hso.2 s hs).2.1) jw_1412 dJ0_charAt_5068e_8 rfl ?_
    refine jk_iload_n (q := 12) dJ0_charAt_5068e_11 rfl rfl ?_
    refine jk_cS2p (q := 15) (c_own1_charAt hz hso hv hj) jm_J1_charAt_3b067 jw_1538 rfl rfl rfl dJ0_charAt_5068e_12 rfl ?_
    exact jk_cret rfl (by first | assumption | decide | omega | exact jB_01 _ | exact jB_in _ | exact ⟨by omega, by omega⟩) dJ0_charAt_5068e_15 (by first | exact jk_qr | (refine jk_qT ?_; grind) | (refine jk_qF ?_; grind) | (refine jk_qI ?_; grind))
theorem c_mad_coder {G : jk_G} {n : Nat} {t : jk_T} {σ : jk_I} {ρ : jk_P} {a b9 : Nat} {L : List Int} (hz : zz_ok G) (hsm : sm_is t ρ σ a b9 L) : jk_K G yJ0_coder_7d493 mJ0_coder_7d493 0 0 [.ref a] n t σ ρ (jk_q (some (jI 0)) n t σ ρ) jk_no := by
  obtain ⟨hm1, hm2, hm3, hm4, hm5, hm6⟩ := id hsm
  refine jk_entryB (ls := [some (.ref a)]) jm_J0_coder_7d493.1 rfl rfl rfl ?_
  refine jk_getsI (q := 3) (x := 1) (zz_cs hz) jw_1295 dJ0_coder_7d493_0 rfl ?_
  refine jk_ifN_eq (q := 6) (by decide) (by decide) dJ0_coder_7d493_3 rfl rfl ?_
  refine jk_aload_n (q := 7) dJ0_coder_7d493_6 rfl rfl ?_
  refine jk_getIR (q := 10) (k := 13) 1 1 rfl (by first | exact hm1 | exact hm2 | assumption) (by first | exact jk_row_same _ _ _ | ((repeat rewrite [jk_row_ne _ _ (by omega)]); first | exact jk_row_same _ _ _ | rfl)) rfl rfl jw_1413 dJ0_coder_7d493_7 rfl ?_
  rw [hm4]
  refine jk_goto (q := 14) dJ0_coder_7d493_10 rfl ?_
  exact jk_bret rfl (by first | assumption | decide | omega | exact jB_01 _ | exact jB_in _ | exact ⟨by omega, by omega⟩) dJ0_coder_7d493_14 (by first | exact jk_qr | (refine jk_qT ?_; grind) | (refine jk_qF ?_; grind) | (refine jk_qI ?_; grind))
theorem c_mad_isLatin1 {G : jk_G} {n : Nat} {t : jk_T} {σ : jk_I} {ρ : jk_P} {a b9 : Nat} {L : List Int} (hz : zz_ok G) (hsm : sm_is t ρ σ a b9 L) : jk_K G yJ0_isLatin1_aae02 mJ0_isLatin1_aae02 0 0 [.ref a] n t σ ρ (jk_q (some (jI (jB true))) n t σ ρ) jk_no := by
  obtain ⟨hm1, hm2, hm3, hm4, hm5, hm6⟩ := id hsm
  refine jk_entryB (ls := [some (.ref a)]) jm_J0_isLatin1_aae02.1 rfl rfl rfl ?_
  refine jk_getsI (q := 3) (x := 1) (zz_cs hz) jw_1295 dJ0_isLatin1_aae02_0 rfl ?_
  refine jk_ifN_eq (q := 6) (by decide) (by decide) dJ0_isLatin1_aae02_3 rfl rfl ?_
  refine jk_aload_n (q := 7) dJ0_isLatin1_aae02_6 rfl rfl ?_
  refine jk_getIR (q := 10) (k := 13) 1 1 rfl (by first | exact hm1 | exact hm2 | assumption) (by first | exact jk_row_same _ _ _ | ((repeat rewrite [jk_row_ne _ _ (by omega)]); first | exact jk_row_same _ _ _ | rfl)) rfl rfl jw_1413 dJ0_isLatin1_aae02_7 rfl ?_
  rw [hm4]
  refine jk_ifN_ne (q := 13) (by decide) (by decide) dJ0_isLatin1_aae02_10 rfl rfl ?_
  refine jk_iconst (q := 14) dJ0_isLatin1_aae02_13 rfl ?_
  refine jk_goto (q := 18) dJ0_isLatin1_aae02_14 rfl ?_
  exact jk_zret rfl (by first | assumption | decide | omega | exact jB_01 _ | exact jB_in _ | exact ⟨by omega, by omega⟩) dJ0_isLatin1_aae02_18 (by first | exact jk_qr | (refine jk_qT ?_; grind) | (refine jk_qF ?_; grind) | (refine jk_qI ?_; grind))
theorem c_mad_length {G : jk_G} {n : Nat} {t : jk_T} {σ : jk_I} {ρ : jk_P} {a b9 : Nat} {L : List Int} (hz : zz_ok G) (hsm : sm_is t ρ σ a b9 L) : jk_K G yJ0_length_8abf5 mJ0_length_8abf5 0 0 [.ref a] n t σ ρ (jk_q (some (jI (L.length : Nat))) n t σ ρ) jk_no := by
  obtain ⟨hm1, hm2, hm3, hm4, hm5, hm6⟩ := id hsm
  refine jk_entryB (ls := [some (.ref a)]) jm_J0_length_8abf5.1 rfl rfl rfl ?_
  refine jk_aload_n (q := 1) dJ0_length_8abf5_0 rfl rfl ?_
  refine jk_getA (q := 4) (k := 13) 0 0 rfl (by first | exact hm1 | exact hm2 | assumption) (by exact hm3) rfl rfl jw_1412 dJ0_length_8abf5_1 rfl ?_
  refine jk_alen (q := 5) (by first | exact hm1 | exact hm2 | assumption) dJ0_length_8abf5_4 rfl ?_
  refine jk_aload_n (q := 6) dJ0_length_8abf5_5 rfl rfl ?_
  refine jk_cV0p (q := 9) (c_mad_coder hz hsm) jm_J0_coder_7d493 jw_1291 rfl (by first | exact hm1 | exact hm2 | assumption) rfl rfl rfl dJ0_length_8abf5_6 rfl ?_
  refine jk_ishr0 (q := 10) dJ0_length_8abf5_9 rfl ?_
  exact jk_iret rfl dJ0_length_8abf5_10 (by first | exact jk_qr | (refine jk_qT ?_; grind) | (refine jk_qF ?_; grind) | (refine jk_qI ?_; grind))
theorem c_mad1_charAt {G : jk_G} {n : Nat} {t : jk_T} {σ : jk_I} {ρ : jk_P} {a b9 : Nat} {L : List Int} {j : Int} (hz : zz_ok G) (hsm : sm_is t ρ σ a b9 L) (hv : zv_ok G) (hj : 0 ≤ j ∧ j < (L.length : Nat)) : jk_K G yJ1_charAt_3b067 mJ1_charAt_3b067 0 0 [.ref b9, jI j] n t σ ρ (jk_q (some (jI (L.getD j.toNat 0))) n t σ ρ) jk_no := by
  obtain ⟨hm1, hm2, hm3, hm4, hm5, hm6⟩ := id hsm
  have hc := hm6 j.toNat (by omega)
  rw [show ((j.toNat : Nat) : Int) = j by omega] at hc
  refine jk_entryB (ls := [some (.ref b9), some (jI j)]) jm_J1_charAt_3b067.1 rfl rfl rfl ?_
  refine jk_iload_n (q := 1) dJ1_charAt_3b067_0 rfl rfl ?_
  refine jk_aload_n (q := 2) dJ1_charAt_3b067_1 rfl rfl ?_
  refine jk_alen (q := 3) (by first | exact hm1 | exact hm2 | assumption) dJ1_charAt_3b067_2 rfl ?_
  refine jk_cS2v (q := 6) (c_J0_checkIndex hv hj (by omega)) jm_J0_checkIndex_df160 jw_1541 rfl rfl rfl dJ1_charAt_3b067_3 rfl ?_
  refine jk_aload_n (q := 7) dJ1_charAt_3b067_6 rfl rfl ?_
  refine jk_iload_n (q := 8) dJ1_charAt_3b067_7 rfl rfl ?_
  refine jk_baldR (q := 9) (by first | exact hm1 | exact hm2 | assumption) (by first | exact jk_row_same _ _ _ | ((repeat rewrite [jk_row_ne _ _ (by omega)]); first | exact jk_row_same _ _ _ | rfl)) (by first | assumption | decide | omega | exact jB_01 _ | exact jB_in _ | exact ⟨by omega, by omega⟩) dJ1_charAt_3b067_8 rfl ?_
  refine jk_sipush (q := 12) (y := 255) dJ1_charAt_3b067_9 rfl (by decide) ?_
  refine jk_iand255 (q := 13) dJ1_charAt_3b067_12 rfl (by first | assumption | decide | omega | exact jB_01 _ | exact jB_in _ | exact ⟨by omega, by omega⟩) ?_
  refine jk_i2c (q := 14) (by first | assumption | decide | omega | exact jB_01 _ | exact jB_in _ | exact ⟨by omega, by omega⟩) dJ1_charAt_3b067_13 rfl ?_
  exact jk_cret rfl (by first | assumption | decide | omega | exact jB_01 _ | exact jB_in _ | exact ⟨by omega, by omega⟩) dJ1_charAt_3b067_14 (by rw [hc.1, show L.getD j.toNat 0 % 256 = L.getD j.toNat 0 by omega]; exact jk_qr)
theorem c_mad_charAt {G : jk_G} {n : Nat} {t : jk_T} {σ : jk_I} {ρ : jk_P} {a b9 : Nat} {L : List Int} {j : Int} (hz : zz_ok G) (hsm : sm_is t ρ σ a b9 L) (hv : zv_ok G) (hj : 0 ≤ j ∧ j < (L.length : Nat)) : jk_K G yJ0_charAt_5068e mJ0_charAt_5068e 0 0 [.ref a, jI j] n t σ ρ (jk_q (some (jI (L.getD j.toNat 0))) n t σ ρ) jk_no := by
  obtain ⟨hm1, hm2, hm3, hm4, hm5, hm6⟩ := id hsm
  have hc := hm6 j.toNat (by omega)
  refine jk_entryB (ls := [some (.ref a), some (jI j)]) jm_J0_charAt_5068e.1 rfl rfl rfl ?_
  refine jk_aload_n (q := 1) dJ0_charAt_5068e_0 rfl rfl ?_
  refine jk_cV0p (q := 4) (c_mad_isLatin1 hz hsm) jm_J0_isLatin1_aae02 jw_1534 rfl (by first | exact hm1 | exact hm2 | assumption) rfl rfl rfl dJ0_charAt_5068e_1 rfl ?_
  refine jk_ifB_eq (q := 16) (q2 := 7) dJ0_charAt_5068e_4 rfl rfl (fun z1 => ?_) (fun z1 => ?_)
  · exact absurd ‹_› (by decide)
  · refine jk_aload_n (q := 8) dJ0_charAt_5068e_7 rfl rfl ?_
    refine jk_getA (q := 11) (k := 13) 0 0 rfl (by first | exact hm1 | exact hm2 | assumption) (by exact hm3) rfl rfl jw_1412 dJ0_charAt_5068e_8 rfl ?_
    refine jk_iload_n (q := 12) dJ0_charAt_5068e_11 rfl rfl ?_
    refine jk_cS2p (q := 15) (c_mad1_charAt hz hsm hv hj) jm_J1_charAt_3b067 jw_1538 rfl rfl rfl dJ0_charAt_5068e_12 rfl ?_
    exact jk_cret rfl (by first | assumption | decide | omega | exact jB_01 _ | exact jB_in _ | exact ⟨by omega, by omega⟩) dJ0_charAt_5068e_15 (by first | exact jk_qr | (refine jk_qT ?_; grind) | (refine jk_qF ?_; grind) | (refine jk_qI ?_; grind))
theorem c_be_isLatin1 {G : jk_G} {n : Nat} {t : jk_T} {σ : jk_I} {ρ : jk_P} {b v K : Nat} {L : List Int} (hz : zz_ok G) (hbd : be_is t ρ σ b v K L) : jk_K G yJ5_isLatin1_aae02 mJ5_isLatin1_aae02 0 0 [.ref b] n t σ ρ (jk_q (some (jI (jB true))) n t σ ρ) jk_no := by
  obtain ⟨⟨hu1, hu2, hu3, hu4, hu5, hu6⟩, hK2, hct, hLK, hby, hel⟩ := id hbd
  refine jk_entryB (ls := [some (.ref b)]) jm_J5_isLatin1_aae02.1 rfl rfl rfl ?_
  refine jk_getsI (q := 3) (x := 1) (zz_cs hz) jw_351 dJ5_isLatin1_aae02_0 rfl ?_
  refine jk_ifN_eq (q := 6) (by decide) (by decide) dJ5_isLatin1_aae02_3 rfl rfl ?_
  refine jk_aload_n (q := 7) dJ5_isLatin1_aae02_6 rfl rfl ?_
  refine jk_getIR (q := 10) (k := 14) 1 1 rfl (by first | exact hu1 | exact hu2 | assumption) (by first | exact jk_row_same _ _ _ | ((repeat rewrite [jk_row_ne _ _ (by omega)]); first | exact jk_row_same _ _ _ | rfl)) rfl rfl jw_361 dJ5_isLatin1_aae02_7 rfl ?_
  rw [hu4]
  refine jk_ifN_ne (q := 13) (by decide) (by decide) dJ5_isLatin1_aae02_10 rfl rfl ?_
  refine jk_iconst (q := 14) dJ5_isLatin1_aae02_13 rfl ?_
  refine jk_goto (q := 18) dJ5_isLatin1_aae02_14 rfl ?_
  exact jk_zret rfl (by first | assumption | decide | omega | exact jB_01 _ | exact jB_in _ | exact ⟨by omega, by omega⟩) dJ5_isLatin1_aae02_18 (by first | exact jk_qr | (refine jk_qT ?_; grind) | (refine jk_qF ?_; grind) | (refine jk_qI ?_; grind))
theorem c_be_length5 {G : jk_G} {n : Nat} {t : jk_T} {σ : jk_I} {ρ : jk_P} {b v K : Nat} {L : List Int} (hbd : be_is t ρ σ b v K L) : jk_K G yJ5_length_8abf5 mJ5_length_8abf5 0 0 [.ref b] n t σ ρ (jk_q (some (jI (L.length : Nat))) n t σ ρ) jk_no := by
  obtain ⟨⟨hu1, hu2, hu3, hu4, hu5, hu6⟩, hK2, hct, hLK, hby, hel⟩ := id hbd
  refine jk_entryB (ls := [some (.ref b)]) jm_J5_length_8abf5.1 rfl rfl rfl ?_
  refine jk_aload_n (q := 1) dJ5_length_8abf5_0 rfl rfl ?_
  refine jk_getIR (q := 4) (k := 14) 3 3 rfl (by first | exact hu1 | exact hu2 | assumption) (by first | exact jk_row_same _ _ _ | ((repeat rewrite [jk_row_ne _ _ (by omega)]); first | exact jk_row_same _ _ _ | rfl)) rfl rfl jw_364 dJ5_length_8abf5_1 rfl ?_
  rw [hct]
  exact jk_iret rfl dJ5_length_8abf5_4 (by first | exact jk_qr | (refine jk_qT ?_; grind) | (refine jk_qF ?_; grind) | (refine jk_qI ?_; grind))
theorem c_be_length4 {G : jk_G} {n : Nat} {t : jk_T} {σ : jk_I} {ρ : jk_P} {b v K : Nat} {L : List Int} (hbd : be_is t ρ σ b v K L) : jk_K G yJ4_length_8abf5 mJ4_length_8abf5 0 0 [.ref b] n t σ ρ (jk_q (some (jI (L.length : Nat))) n t σ ρ) jk_no := by
  obtain ⟨⟨hu1, hu2, hu3, hu4, hu5, hu6⟩, hK2, hct, hLK, hby, hel⟩ := id hbd
  refine jk_entryB (ls := [some (.ref b)]) jm_J4_length_8abf5.1 rfl rfl rfl ?_
  refine jk_aload_n (q := 1) dJ4_length_8abf5_0 rfl rfl ?_
  refine jk_callSU (q := 4) (k := 14) (As := []) (c_be_length5 hbd) jm_J5_length_8abf5.1 (by decide) jm_J5_length_8abf5.2 jw_1375 jw_373 jw_1379 (by first | exact hu1 | exact hu2 | assumption) rfl rfl rfl (Nat.zero_le _) (Nat.zero_le _) rfl dJ4_length_8abf5_1 rfl (fun v' n' t' σ' ρ' hq => ?_) (fun _ _ _ _ _ h => h.elim)
  obtain ⟨rfl, hn9, ht9, hs9, hr9⟩ := hq
  replace hn9 := hn9.symm; replace ht9 := ht9.symm; replace hs9 := hs9.symm; replace hr9 := hr9.symm; subst hn9 ht9 hs9 hr9
  simp only [Option.toList_some, Option.toList_none, List.cons_append, List.nil_append, Nat.sub_zero]
  exact jk_iret rfl dJ4_length_8abf5_4 (by first | exact jk_qr | (refine jk_qT ?_; grind) | (refine jk_qF ?_; grind) | (refine jk_qI ?_; grind))
theorem c_be_getValue {G : jk_G} {n : Nat} {t : jk_T} {σ : jk_I} {ρ : jk_P} {b v K : Nat} {L : List Int} (hbd : be_is t ρ σ b v K L) : jk_K G yJ5_getValue_6d5f1 mJ5_getValue_6d5f1 0 0 [.ref b] n t σ ρ (jk_q (some (.ref v)) n t σ ρ) jk_no := by
  obtain ⟨⟨hu1, hu2, hu3, hu4, hu5, hu6⟩, hK2, hct, hLK, hby, hel⟩ := id hbd
  refine jk_entryB (ls := [some (.ref b)]) jm_J5_getValue_6d5f1.1 rfl rfl rfl ?_
  refine jk_aload_n (q := 1) dJ5_getValue_6d5f1_0 rfl rfl ?_
  refine jk_getA (q := 4) (k := 14) 0 0 rfl (by first | exact hu1 | exact hu2 | assumption) (by exact hu3) rfl rfl jw_360 dJ5_getValue_6d5f1_1 rfl ?_
  exact jk_aret rfl (by first | exact Or.inl ⟨_, rfl⟩ | exact Or.inr ⟨_, rfl⟩) dJ5_getValue_6d5f1_4 (by exact jk_qr)
theorem c_be_newLength {G : jk_G} {n : Nat} {t : jk_T} {σ : jk_I} {ρ : jk_P} {k g p : Int} (hk : 0 ≤ k ∧ k ≤ 200) (hg : 0 < g ∧ g ≤ 200) (hp : 0 ≤ p ∧ p ≤ 300) : jk_K G yJ8_newLength_cabcc mJ8_newLength_cabcc 0 0 [jI k, jI g, jI p] n t σ ρ (jk_q (some (jI (k + (if g < p then p else g)))) n t σ ρ) jk_no := by
  refine jk_entryB (ls := [some (jI k), some (jI g), some (jI p), none]) jm_J8_newLength_cabcc.1 rfl rfl rfl ?_
  refine jk_iload_n (q := 1) dJ8_newLength_cabcc_0 rfl rfl ?_
  refine jk_iload_n (q := 2) dJ8_newLength_cabcc_1 rfl rfl ?_
  refine jk_iload_n (q := 3) dJ8_newLength_cabcc_2 rfl rfl ?_
  refine jk_mmax (q := 6) jw_1236 rfl rfl (by first | assumption | decide | omega | exact jB_01 _ | exact jB_in _ | exact ⟨by omega, by omega⟩ | (split <;> first | omega | exact ⟨by omega, by omega⟩)) (by first | assumption | decide | omega | exact jB_01 _ | exact jB_in _ | exact ⟨by omega, by omega⟩ | (split <;> first | omega | exact ⟨by omega, by omega⟩)) dJ8_newLength_cabcc_3 rfl ?_
  refine jk_iadd (q := 7) dJ8_newLength_cabcc_6 rfl ?_
  refine jk_istore3 (q := 8) dJ8_newLength_cabcc_7 rfl rfl rfl ?_
  refine jk_iconst (q := 9) dJ8_newLength_cabcc_8 rfl ?_
  refine jk_iload_n (q := 10) dJ8_newLength_cabcc_9 rfl rfl ?_
  refine jk_icmp_ge (q := 21) (q2 := 13) dJ8_newLength_cabcc_10 rfl rfl (by first | assumption | decide | omega | exact jB_01 _ | exact jB_in _ | exact ⟨by omega, by omega⟩ | (split <;> first | omega | exact ⟨by omega, by omega⟩)) (by first | assumption | decide | omega | exact jB_01 _ | exact jB_in _ | exact ⟨by omega, by omega⟩ | (split <;> first | omega | exact ⟨by omega, by omega⟩)) (fun z1 => ?_) (fun z1 => ?_)
  · exfalso; revert ‹_›; split <;> omega
  · refine jk_iload_n (q := 14) dJ8_newLength_cabcc_13 rfl rfl ?_
    refine jk_ldcV (q := 16) (x := 2147483639) jw_1237 (by decide) dJ8_newLength_cabcc_14 rfl ?_
    refine jk_icmp_gt (q := 21) (q2 := 19) dJ8_newLength_cabcc_16 rfl rfl (by first | assumption | decide | omega | exact jB_01 _ | exact jB_in _ | exact ⟨by omega, by omega⟩ | (split <;> first | omega | exact ⟨by omega, by omega⟩)) (by first | assumption | decide | omega | exact jB_01 _ | exact jB_in _ | exact ⟨by omega, by omega⟩ | (split <;> first | omega | exact ⟨by omega, by omega⟩)) (fun z2 => ?_) (fun z2 => ?_)
    · exfalso; revert ‹_›; split <;> omega
    · refine jk_iload_n (q := 20) dJ8_newLength_cabcc_19 rfl rfl ?_
      exact jk_iret rfl dJ8_newLength_cabcc_20 (by first | exact jk_qr | (refine jk_qT ?_; grind) | (refine jk_qF ?_; grind) | (refine jk_qI ?_; grind))
theorem c_be_newCapacity {G : jk_G} {n : Nat} {t : jk_T} {σ : jk_I} {ρ : jk_P} {b v K : Nat} {L : List Int}{m : Int} (hbd : be_is t ρ σ b v K L) (hm : (K : Int) < m ∧ m ≤ 100) : jk_K G yJ5_newCapacity_0f7a4 mJ5_newCapacity_0f7a4 0 0 [.ref b, jI m] n t σ ρ (jk_q (some (jI ((K : Int) + (if m - (K : Int) < (K : Int) + 2 then (K : Int) + 2 else m - (K : Int))))) n t σ ρ) jk_no := by
  obtain ⟨⟨hu1, hu2, hu3, hu4, hu5, hu6⟩, hK2, hct, hLK, hby, hel⟩ := id hbd
  refine jk_entryB (ls := [some (.ref b), some (jI m), none, none, none, none]) jm_J5_newCapacity_0f7a4.1 rfl rfl rfl ?_
  refine jk_aload_n (q := 1) dJ5_newCapacity_0f7a4_0 rfl rfl ?_
  refine jk_getA (q := 4) (k := 14) 0 0 rfl (by first | exact hu1 | exact hu2 | assumption) (by exact hu3) rfl rfl jw_360 dJ5_newCapacity_0f7a4_1 rfl ?_
  refine jk_alen (q := 5) (by first | exact hu1 | exact hu2 | assumption) dJ5_newCapacity_0f7a4_4 rfl ?_
  refine jk_istore2 (q := 6) dJ5_newCapacity_0f7a4_5 rfl rfl rfl ?_
  refine jk_iload_n (q := 7) dJ5_newCapacity_0f7a4_6 rfl rfl ?_
  refine jk_aload_n (q := 8) dJ5_newCapacity_0f7a4_7 rfl rfl ?_
  refine jk_getIR (q := 11) (k := 14) 1 1 rfl (by first | exact hu1 | exact hu2 | assumption) (by first | exact jk_row_same _ _ _ | ((repeat rewrite [jk_row_ne _ _ (by omega)]); first | exact jk_row_same _ _ _ | rfl)) rfl rfl jw_361 dJ5_newCapacity_0f7a4_8 rfl ?_
  rw [hu4]
  refine jk_ishl0 (q := 12) dJ5_newCapacity_0f7a4_11 rfl ?_
  refine jk_istore3 (q := 13) dJ5_newCapacity_0f7a4_12 rfl rfl rfl ?_
  refine jk_iload_n (q := 14) dJ5_newCapacity_0f7a4_13 rfl rfl ?_
  refine jk_iload_n (q := 15) dJ5_newCapacity_0f7a4_14 rfl rfl ?_
  refine jk_isub (q := 16) dJ5_newCapacity_0f7a4_15 rfl ?_
  refine jk_istore4 (q := 18) dJ5_newCapacity_0f7a4_16 rfl rfl rfl ?_
  refine jk_iload_n (q := 19) dJ5_newCapacity_0f7a4_18 rfl rfl ?_
  refine jk_iload (q := 21) dJ5_newCapacity_0f7a4_19 rfl rfl ?_
  refine jk_iload_n (q := 22) dJ5_newCapacity_0f7a4_21 rfl rfl ?_
  refine jk_iconst (q := 23) dJ5_newCapacity_0f7a4_22 rfl ?_
  refine jk_aload_n (q := 24) dJ5_newCapacity_0f7a4_23 rfl rfl ?_
  refine jk_getIR (q := 27) (k := 14) 1 1 rfl (by first | exact hu1 | exact hu2 | assumption) (by first | exact jk_row_same _ _ _ | ((repeat rewrite [jk_row_ne _ _ (by omega)]); first | exact jk_row_same _ _ _ | rfl)) rfl rfl jw_361 dJ5_newCapacity_0f7a4_24 rfl ?_
  rw [hu4]
  refine jk_ishl0 (q := 28) dJ5_newCapacity_0f7a4_27 rfl ?_
  refine jk_iadd (q := 29) dJ5_newCapacity_0f7a4_28 rfl ?_
  refine jk_cS3p (q := 32) (c_be_newLength (k := (K : Int)) (g := m - (K : Int)) (p := (K : Int) + 2) ⟨by omega, by omega⟩ ⟨by omega, by omega⟩ ⟨by omega, by omega⟩) jm_J8_newLength_cabcc jw_1233 rfl rfl rfl dJ5_newCapacity_0f7a4_29 rfl ?_
  refine jk_istore5 (q := 34) dJ5_newCapacity_0f7a4_32 rfl rfl rfl ?_
  refine jk_iload (q := 36) dJ5_newCapacity_0f7a4_34 rfl rfl ?_
  refine jk_ldcV (q := 38) (x := 2147483647) jw_1241 (by decide) dJ5_newCapacity_0f7a4_36 rfl ?_
  refine jk_icmp_ne (q := 51) (q2 := 41) dJ5_newCapacity_0f7a4_38 rfl rfl (by first | assumption | decide | omega | exact jB_01 _ | exact jB_in _ | exact ⟨by omega, by omega⟩ | (split <;> first | omega | exact ⟨by omega, by omega⟩)) (by first | assumption | decide | omega | exact jB_01 _ | exact jB_in _ | exact ⟨by omega, by omega⟩ | (split <;> first | omega | exact ⟨by omega, by omega⟩)) (fun z1 => ?_) (fun z1 => ?_)
  · refine jk_iload (q := 53) dJ5_newCapacity_0f7a4_51 rfl rfl ?_
    refine jk_aload_n (q := 54) dJ5_newCapacity_0f7a4_53 rfl rfl ?_
    refine jk_getIR (q := 57) (k := 14) 1 1 rfl (by first | exact hu1 | exact hu2 | assumption) (by first | exact jk_row_same _ _ _ | ((repeat rewrite [jk_row_ne _ _ (by omega)]); first | exact jk_row_same _ _ _ | rfl)) rfl rfl jw_361 dJ5_newCapacity_0f7a4_54 rfl ?_
    rw [hu4]
    refine jk_ishr0 (q := 58) dJ5_newCapacity_0f7a4_57 rfl ?_
    exact jk_iret rfl dJ5_newCapacity_0f7a4_58 (by first | exact jk_qr | (refine jk_qT ?_; grind) | (refine jk_qF ?_; grind) | (refine jk_qI ?_; grind))
  · exfalso; revert ‹_›; split <;> omega
theorem c_be_copyOf {G : jk_G} {n : Nat} {t : jk_T} {σ : jk_I} {ρ : jk_P} {v K K2 : Nat} (hv : t v = some (.inl (.byte, K))) (hvn : v < n) (hK : K < K2 ∧ K2 ≤ 200) (hby : ∀ j : Int, 0 ≤ j ∧ j < (K : Int) → 0 ≤ σ v j ∧ σ v j < 128) : jk_K G yJ7_copyOf_9075b mJ7_copyOf_9075b 1 200 [.ref v, jI (K2 : Int)] n t σ ρ (jk_q (some (.ref n)) (n + 2) (jk_tg t n (.inl (.byte, K2))) (be_gS σ n v K K2) (jk_zr ρ n none)) jk_no := by
  refine jk_entryB (ls := [some (.ref v), some (jI (K2 : Int)), none]) jm_J7_copyOf_9075b.1 rfl rfl rfl ?_
  refine jk_iload_n (q := 1) dJ7_copyOf_9075b_0 rfl rfl ?_
  refine jk_aload_n (q := 2) dJ7_copyOf_9075b_1 rfl rfl ?_
  refine jk_alen (q := 3) (by first | assumption | exact if_pos rfl | exact (if_neg (by omega)).trans hv) dJ7_copyOf_9075b_2 rfl ?_
  refine jk_icmp_ne (q := 14) (q2 := 6) dJ7_copyOf_9075b_3 rfl rfl (by first | assumption | decide | omega | exact jB_01 _ | exact jB_in _ | exact ⟨by omega, by omega⟩) (by first | assumption | decide | omega | exact jB_01 _ | exact jB_in _ | exact ⟨by omega, by omega⟩) (fun z1 => ?_) (fun z1 => ?_)
  · refine jk_iload_n (q := 15) dJ7_copyOf_9075b_14 rfl rfl ?_
    refine jk_newarr (q := 17) (atype := .byte) (ty := .byte) (len := K2) rfl jw_374 rfl (by first | decide | omega) (by first | decide | omega) (by first | decide | omega) dJ7_copyOf_9075b_15 rfl ?_
    refine jk_astore2 (q := 18) dJ7_copyOf_9075b_17 rfl rfl rfl ?_
    refine jk_aload_n (q := 19) dJ7_copyOf_9075b_18 rfl rfl ?_
    refine jk_iconst (q := 20) dJ7_copyOf_9075b_19 rfl ?_
    refine jk_aload_n (q := 21) dJ7_copyOf_9075b_20 rfl rfl ?_
    refine jk_iconst (q := 22) dJ7_copyOf_9075b_21 rfl ?_
    refine jk_aload_n (q := 23) dJ7_copyOf_9075b_22 rfl rfl ?_
    refine jk_alen (q := 24) (by first | assumption | exact if_pos rfl | exact (if_neg (by omega)).trans hv) dJ7_copyOf_9075b_23 rfl ?_
    refine jk_iload_n (q := 25) dJ7_copyOf_9075b_24 rfl rfl ?_
    refine jk_mmin (q := 28) jw_1252 rfl rfl (by first | assumption | decide | omega | exact jB_01 _ | exact jB_in _ | exact ⟨by omega, by omega⟩) (by first | assumption | decide | omega | exact jB_01 _ | exact jB_in _ | exact ⟨by omega, by omega⟩) dJ7_copyOf_9075b_25 rfl ?_
    rw [show (if (K2 : Int) < (K : Int) then (K2 : Int) else (K : Int)) = (K : Int) from if_neg (by omega)]
    refine jk_copyb (q := 31) (by first | assumption | exact if_pos rfl | exact (if_neg (by omega)).trans hv) (by first | assumption | exact if_pos rfl | exact (if_neg (by omega)).trans hv) (by first | assumption | decide | omega | exact jB_01 _ | exact jB_in _ | exact ⟨by omega, by omega⟩) (by intro j hj; rw [jk_zr_row _ _ (by omega)]; exact hby j ⟨by omega, by omega⟩) jw_1253 rfl rfl dJ7_copyOf_9075b_28 rfl ?_
    refine jk_aload_n (q := 32) dJ7_copyOf_9075b_31 rfl rfl ?_
    exact jk_aret rfl (by first | exact Or.inl ⟨_, rfl⟩ | exact Or.inr ⟨_, rfl⟩) dJ7_copyOf_9075b_32 (by unfold be_gS; exact jk_qr)
  · exfalso; omega
theorem c_be_ensure {G : jk_G} {n : Nat} {t : jk_T} {σ : jk_I} {ρ : jk_P} {b v K : Nat} {L : List Int}{m : Int} (hbd : be_is t ρ σ b v K L) (hzp : zp_ok G) (hb : b < n) (hv : v < n) (hm : 0 ≤ m ∧ m ≤ 100) : jk_K G yJ5_ensureCapacityInternal_d00df mJ5_ensureCapacityInternal_d00df 1 200 [.ref b, jI m] n t σ ρ (be_Q none b v n t σ ρ L m.toNat) jk_no := by
  obtain ⟨⟨hu1, hu2, hu3, hu4, hu5, hu6⟩, hK2, hct, hLK, hby, hel⟩ := id hbd
  refine jk_entryB (ls := [some (.ref b), some (jI m), none]) jm_J5_ensureCapacityInternal_d00df.1 rfl rfl rfl ?_
  refine jk_aload_n (q := 1) dJ5_ensureCapacityInternal_d00df_0 rfl rfl ?_
  refine jk_getA (q := 4) (k := 14) 0 0 rfl (by first | exact hu1 | exact hu2 | exact (if_neg (by omega)).trans hu1) (by exact hu3) rfl rfl jw_360 dJ5_ensureCapacityInternal_d00df_1 rfl ?_
  refine jk_alen (q := 5) (by first | exact hu1 | exact hu2 | exact (if_neg (by omega)).trans hu1) dJ5_ensureCapacityInternal_d00df_4 rfl ?_
  refine jk_aload_n (q := 6) dJ5_ensureCapacityInternal_d00df_5 rfl rfl ?_
  refine jk_getIR (q := 9) (k := 14) 1 1 rfl (by first | exact hu1 | exact hu2 | exact (if_neg (by omega)).trans hu1) (by first | exact jk_row_same _ _ _ | ((repeat rewrite [jk_row_ne _ _ (by omega)]); first | exact jk_row_same _ _ _ | rfl)) rfl rfl jw_361 dJ5_ensureCapacityInternal_d00df_6 rfl ?_
  rw [hu4]
  refine jk_ishr0 (q := 10) dJ5_ensureCapacityInternal_d00df_9 rfl ?_
  refine jk_istore2 (q := 11) dJ5_ensureCapacityInternal_d00df_10 rfl rfl rfl ?_
  refine jk_iload_n (q := 12) dJ5_ensureCapacityInternal_d00df_11 rfl rfl ?_
  refine jk_iload_n (q := 13) dJ5_ensureCapacityInternal_d00df_12 rfl rfl ?_
  refine jk_isub (q := 14) dJ5_ensureCapacityInternal_d00df_13 rfl ?_
  refine jk_if_le (q := 38) (q2 := 17) dJ5_ensureCapacityInternal_d00df_14 rfl rfl (by first | assumption | decide | omega | exact jB_01 _ | exact jB_in _ | exact ⟨by omega, by omega⟩) (fun z1 => ?_) (fun z1 => ?_)
  · exact jk_ret rfl dJ5_ensureCapacityInternal_d00df_38 (by first | exact ⟨rfl, v, K, hbd, by omega, bd_fr0 hv⟩ | exact ⟨rfl, n, K9, (be_grow hbd hb hv (by omega) hK8.2.1).1, by omega, (be_grow hbd hb hv (by omega) hK8.2.1).2⟩)
  · refine jk_aload_n (q := 18) dJ5_ensureCapacityInternal_d00df_17 rfl rfl ?_
    refine jk_aload_n (q := 19) dJ5_ensureCapacityInternal_d00df_18 rfl rfl ?_
    refine jk_getA (q := 22) (k := 14) 0 0 rfl (by first | exact hu1 | exact hu2 | exact (if_neg (by omega)).trans hu1) (by exact hu3) rfl rfl jw_360 dJ5_ensureCapacityInternal_d00df_19 rfl ?_
    refine jk_aload_n (q := 23) dJ5_ensureCapacityInternal_d00df_22 rfl rfl ?_
    refine jk_iload_n (q := 24) dJ5_ensureCapacityInternal_d00df_23 rfl rfl ?_
    refine jk_callVS (q := 27) (k := 14) (As := [jI m]) (fun s args hZ _ => (hzp s args hZ).2) (c_be_newCapacity hbd ⟨by omega, by omega⟩) jm_J5_newCapacity_0f7a4.1 jm_J5_newCapacity_0f7a4.2 jw_1229 (by first | exact hu1 | exact hu2 | exact (if_neg (by omega)).trans hu1) rfl rfl rfl (Nat.zero_le _) (Nat.zero_le _) rfl dJ5_ensureCapacityInternal_d00df_24 rfl (fun v' n' t' σ' ρ' hq => ?_) (fun _ _ _ _ _ h => h.elim)
    obtain ⟨rfl, hn9, ht9, hs9, hr9⟩ := hq
    replace hn9 := hn9.symm; replace ht9 := ht9.symm; replace hs9 := hs9.symm; replace hr9 := hr9.symm; subst hn9 ht9 hs9 hr9
    simp only [Option.toList_some, Option.toList_none, List.cons_append, List.nil_append, Nat.sub_zero]
    refine jk_aload_n (q := 28) dJ5_ensureCapacityInternal_d00df_27 rfl rfl ?_
    refine jk_getIR (q := 31) (k := 14) 1 1 rfl (by first | exact hu1 | exact hu2 | exact (if_neg (by omega)).trans hu1) (by first | exact jk_row_same _ _ _ | ((repeat rewrite [jk_row_ne _ _ (by omega)]); first | exact jk_row_same _ _ _ | rfl)) rfl rfl jw_361 dJ5_ensureCapacityInternal_d00df_28 rfl ?_
    rw [hu4]
    refine jk_ishl0 (q := 32) dJ5_ensureCapacityInternal_d00df_31 rfl ?_
    obtain ⟨K9, hK9⟩ : ∃ K9 : Nat, (K : Int) + (if m - (K : Int) < (K : Int) + 2 then (K : Int) + 2 else m - (K : Int)) = (K9 : Int) := ⟨((K : Int) + (if m - (K : Int) < (K : Int) + 2 then (K : Int) + 2 else m - (K : Int))).toNat, by split <;> omega⟩
    have hK8 : K < K9 ∧ K9 ≤ 200 ∧ m ≤ (K9 : Int) := by revert hK9; split <;> omega
    rw [hK9]
    refine jk_cS2d (q := 35) (c_be_copyOf hu2 hv ⟨hK8.1, hK8.2.1⟩ (fun j hj => hby j hj)) jm_J7_copyOf_9075b jw_1242 rfl rfl (by decide) (by decide) rfl dJ5_ensureCapacityInternal_d00df_32 rfl ?_
    refine jk_putA (q := 38) (k := 14) 0 0 rfl (by first | exact hu1 | exact hu2 | exact (if_neg (by omega)).trans hu1) rfl rfl (by first | exact Or.inl ⟨_, rfl⟩ | exact Or.inr ⟨_, rfl⟩) jw_360 dJ5_ensureCapacityInternal_d00df_35 rfl ?_
    exact jk_ret rfl dJ5_ensureCapacityInternal_d00df_38 (by first | exact ⟨rfl, v, K, hbd, by omega, bd_fr0 hv⟩ | exact ⟨rfl, n, K9, (be_grow hbd hb hv (by omega) hK8.2.1).1, by omega, (be_grow hbd hb hv (by omega) hK8.2.1).2⟩)
theorem c_be_appendI5 {G : jk_G} {n : Nat} {t : jk_T} {σ : jk_I} {ρ : jk_P} {b v K : Nat} {L : List Int}{x : Int} (hbd : be_is t ρ σ b v K L) (hz : zz_ok G) (hzp : zp_ok G) (hb : b < n) (hv : v < n) (hx : -100000000 < x ∧ x < 100000000) (hl : L.length + (md_dgs x).length ≤ 100) : jk_K G yJ5_append_c97b9 mJ5_append_c97b9 1 200 [.ref b, jI x] n t σ ρ (be_Q (some (.ref b)) b v n t σ ρ (L ++ md_dgs x) 0) jk_no := by
  obtain ⟨⟨hu1, hu2, hu3, hu4, hu5, hu6⟩, hK2, hct, hLK, hby, hel⟩ := id hbd
  refine jk_entryB (ls := [some (.ref b), some (jI x), none, none]) jm_J5_append_c97b9.1 rfl rfl rfl ?_
  refine jk_aload_n (q := 1) dJ5_append_c97b9_0 rfl rfl ?_
  refine jk_getIR (q := 4) (k := 14) 3 3 rfl (by first | exact hu1 | exact hu2 | assumption) (by first | exact jk_row_ne _ _ (by omega) | rfl) rfl rfl jw_364 dJ5_append_c97b9_1 rfl ?_
  rw [hct]
  refine jk_istore2 (q := 5) dJ5_append_c97b9_4 rfl rfl rfl ?_
  refine jk_iload_n (q := 6) dJ5_append_c97b9_5 rfl rfl ?_
  refine jk_iload_n (q := 7) dJ5_append_c97b9_6 rfl rfl ?_
  refine jk_cS1p (q := 10) (c_J6_stringSize_0f7a4 hx) jm_J6_stringSize_0f7a4 jw_1337 rfl rfl rfl dJ5_append_c97b9_7 rfl ?_
  refine jk_iadd (q := 11) dJ5_append_c97b9_10 rfl ?_
  refine jk_istore3 (q := 12) dJ5_append_c97b9_11 rfl rfl rfl ?_
  refine jk_aload_n (q := 13) dJ5_append_c97b9_12 rfl rfl ?_
  refine jk_iload_n (q := 14) dJ5_append_c97b9_13 rfl rfl ?_
  refine jk_callVS (q := 17) (k := 14) (As := [jI (((L.length : Int) + (((md_dgs x).length : Nat) : Int)))]) (fun s args hZ _ => (hzp s args hZ).1) (c_be_ensure (m := ((L.length : Int) + (((md_dgs x).length : Nat) : Int))) hbd hzp hb hv ⟨by omega, by omega⟩) jm_J5_ensureCapacityInternal_d00df.1 jm_J5_ensureCapacityInternal_d00df.2 jw_1225 (by first | exact hu1 | exact hu2 | assumption) rfl rfl rfl (by decide) (by decide) rfl dJ5_append_c97b9_14 rfl (fun v' n' t' σ' ρ' hq => ?_) (fun _ _ _ _ _ h => h.elim)
  obtain ⟨rfl, w, K1, hbd1, hmK, hfr⟩ := hq
  simp only [Option.toList_some, Option.toList_none, List.cons_append, List.nil_append]
  obtain ⟨⟨hu1, hu2, hu3, hu4, hu5, hu6⟩, hK2, hct, hLK, hby, hel⟩ := id hbd1
  refine jk_aload_n (q := 18) dJ5_append_c97b9_17 rfl rfl ?_
  refine jk_callVS (q := 21) (k := 14) (As := []) (fun s args _ h => h _ jw_1259) (c_be_isLatin1 hz hbd1) jm_J5_isLatin1_aae02.1 jm_J5_isLatin1_aae02.2 jw_1256 (by first | exact hu1 | exact hu2 | assumption) rfl rfl rfl (Nat.zero_le _) (Nat.zero_le _) rfl dJ5_append_c97b9_18 rfl (fun v' n' t' σ' ρ' hq => ?_) (fun _ _ _ _ _ h => h.elim)
  obtain ⟨rfl, hn9, ht9, hs9, hr9⟩ := hq
  replace hn9 := hn9.symm; replace ht9 := ht9.symm; replace hs9 := hs9.symm; replace hr9 := hr9.symm; subst hn9 ht9 hs9 hr9
  simp only [Option.toList_some, Option.toList_none, List.cons_append, List.nil_append, Nat.sub_zero]
  refine jk_ifB_eq (q := 37) (q2 := 24) dJ5_append_c97b9_21 rfl rfl (fun z1 => ?_) (fun z1 => ?_)
  · exact absurd ‹_› (by decide)
  · refine jk_iload_n (q := 25) dJ5_append_c97b9_24 rfl rfl ?_
    refine jk_iload_n (q := 26) dJ5_append_c97b9_25 rfl rfl ?_
    refine jk_aload_n (q := 27) dJ5_append_c97b9_26 rfl rfl ?_
    refine jk_getA (q := 30) (k := 14) 0 0 rfl (by first | exact hu1 | exact hu2 | assumption) (by exact hu3) rfl rfl jw_360 dJ5_append_c97b9_27 rfl ?_
    refine jk_cS3p (q := 33) (c_J6_getChars_ba4f3 (x := ((L.length : Int) + (((md_dgs x).length : Nat) : Int))) hz hu2 hu5 hx ⟨by omega, by omega⟩ rfl) jm_J6_getChars_ba4f3 jw_1340 rfl rfl rfl dJ5_append_c97b9_30 rfl ?_
    refine jk_pop (q := 34) dJ5_append_c97b9_33 rfl rfl ?_
    refine jk_goto (q := 48) dJ5_append_c97b9_34 rfl ?_
    refine jk_aload_n (q := 49) dJ5_append_c97b9_48 rfl rfl ?_
    refine jk_iload_n (q := 50) dJ5_append_c97b9_49 rfl rfl ?_
    refine jk_putIR (q := 53) (k := 14) 3 3 rfl (by first | exact hu1 | exact hu2 | assumption) (by first | exact jk_row_ne _ _ (by omega) | rfl) rfl rfl rfl jw_364 dJ5_append_c97b9_50 rfl ?_
    refine jk_aload_n (q := 54) dJ5_append_c97b9_53 rfl rfl ?_
    exact jk_aret rfl (by first | exact Or.inl ⟨_, rfl⟩ | exact Or.inr ⟨_, rfl⟩) dJ5_append_c97b9_54 (by exact ⟨rfl, w, K1, be_appN hbd1 (by omega), Nat.zero_le _, bd_frW hfr (fun a h1 h2 => by rw [jk_row_ne _ _ h1, jk_row_ne _ _ h2])⟩)
theorem c_be_appendI {G : jk_G} {n : Nat} {t : jk_T} {σ : jk_I} {ρ : jk_P} {b v K : Nat} {L : List Int}{x : Int} (hbd : be_is t ρ σ b v K L) (hz : zz_ok G) (hzp : zp_ok G) (hb : b < n) (hv : v < n) (hx : -100000000 < x ∧ x < 100000000) (hl : L.length + (md_dgs x).length ≤ 100) : jk_K G yJ4_append_bf812 mJ4_append_bf812 1 200 [.ref b, jI x] n t σ ρ (be_Q (some (.ref b)) b v n t σ ρ (L ++ md_dgs x) 0) jk_no := by
  obtain ⟨⟨hu1, hu2, hu3, hu4, hu5, hu6⟩, hK2, hct, hLK, hby, hel⟩ := id hbd
  refine jk_entryB (ls := [some (.ref b), some (jI x)]) jm_J4_append_bf812.1 rfl rfl rfl ?_
  refine jk_aload_n (q := 1) dJ4_append_bf812_0 rfl rfl ?_
  refine jk_iload_n (q := 2) dJ4_append_bf812_1 rfl rfl ?_
  refine jk_callSU (q := 5) (k := 14) (As := [jI x]) (c_be_appendI5 hbd hz hzp hb hv hx hl) jm_J5_append_c97b9.1 (by decide) jm_J5_append_c97b9.2 jw_1754 jw_373 jw_1334 (by first | exact hu1 | exact hu2 | assumption) rfl rfl rfl (by decide) (by decide) rfl dJ4_append_bf812_2 rfl (fun v' n' t' σ' ρ' hq => ?_) (fun _ _ _ _ _ h => h.elim)
  obtain ⟨rfl, hq⟩ := hq
  simp only [Option.toList_some, Option.toList_none, List.cons_append, List.nil_append]
  refine jk_pop (q := 6) dJ4_append_bf812_5 rfl rfl ?_
  refine jk_aload_n (q := 7) dJ4_append_bf812_6 rfl rfl ?_
  exact jk_aret rfl (by first | exact Or.inl ⟨_, rfl⟩ | exact Or.inr ⟨_, rfl⟩) dJ4_append_bf812_7 (by exact ⟨rfl, hq⟩)
theorem c_be_getBytes {G : jk_G} {n : Nat} {t : jk_T} {σ : jk_I} {ρ : jk_P} {w K : Nat} {d : Int} {a b9 : Nat} {A9 : List Int} (hz : zz_ok G) (hso : so_ok G a b9 A9) (hw : t w = some (.inl (.byte, K))) (hd : 0 ≤ d ∧ d + (A9.length : Nat) ≤ (K : Int)) (hK : K ≤ 200) : jk_K G yJ0_getBytes_840e7 mJ0_getBytes_840e7 0 0 [.ref a, .ref w, jI d, jI 0] n t σ ρ (jk_q none n t (jk_row σ w (fun j => if d ≤ j ∧ j < d + (A9.length : Nat) then A9.getD (j - d).toNat 0 else σ w j)) ρ) jk_no := by
  have h100 := hso.1.1
  refine jk_entryB (ls := [some (.ref a), some (.ref w), some (jI d), some (jI 0)]) jm_J0_getBytes_840e7.1 rfl rfl rfl ?_
  refine jk_aload_n (q := 1) dJ0_getBytes_840e7_0 rfl rfl ?_
  refine jk_callVO (q := 4) (mc := 0) (ms := 0) (As := []) (fun s hs => (hso.2 s hs).1) (c_own_coder hz hso) jm_J0_coder_7d493 jw_1291 rfl (by decide) (Nat.le_of_ble_eq_true rfl) (Nat.zero_le _) (Nat.zero_le _) (fun x hx => by cases hx) dJ0_getBytes_840e7_1 rfl (fun v' n' t' σ' ρ' hq => ?_) (fun _ _ _ _ _ h => h.elim)
  obtain ⟨rfl, rfl, rfl, rfl, rfl⟩ := hq
  simp only [Option.toList_some, List.cons_append, List.nil_append, Nat.sub_zero]
  refine jk_iload_n (q := 5) dJ0_getBytes_840e7_4 rfl rfl ?_
  refine jk_icmp_ne (q := 28) (q2 := 8) dJ0_getBytes_840e7_5 rfl rfl (by first | assumption | decide | omega | exact jB_01 _ | exact jB_in _ | exact ⟨by omega, by omega⟩) (by first | assumption | decide | omega | exact jB_01 _ | exact jB_in _ | exact ⟨by omega, by omega⟩) (fun z1 => ?_) (fun z1 => ?_)
  · exact absurd rfl ‹_›
  · refine jk_aload_n (q := 9) dJ0_getBytes_840e7_8 rfl rfl ?_
    refine jk_oget (q := 12) (v := .ref b9) (fun s hs => (hso.2 s hs).2.1) jw_1412 dJ0_getBytes_840e7_9 rfl ?_
    refine jk_iconst (q := 13) dJ0_getBytes_840e7_12 rfl ?_
    refine jk_aload_n (q := 14) dJ0_getBytes_840e7_13 rfl rfl ?_
    refine jk_iload_n (q := 15) dJ0_getBytes_840e7_14 rfl rfl ?_
    refine jk_iload_n (q := 16) dJ0_getBytes_840e7_15 rfl rfl ?_
    refine jk_ishl0 (q := 17) dJ0_getBytes_840e7_16 rfl ?_
    refine jk_aload_n (q := 18) dJ0_getBytes_840e7_17 rfl rfl ?_
    refine jk_oget (q := 21) (v := .ref b9) (fun s hs => (hso.2 s hs).2.1) jw_1412 dJ0_getBytes_840e7_18 rfl ?_
    refine jk_tlen (q := 22) ((fun s hs => (hso.2 s hs).2.2.2)) dJ0_getBytes_840e7_21 rfl ?_
    refine jk_copyo (q := 25) (f := fun j => A9.getD j 0) (N := A9.length) (fun s hs => (hso.2 s hs).2.2.2) hw ⟨by omega, by omega, by omega, by omega, by omega⟩ (fun j hj => hso.1.2 j hj) jw_1328 rfl rfl dJ0_getBytes_840e7_22 rfl ?_
    refine jk_goto (q := 43) dJ0_getBytes_840e7_25 rfl ?_
    exact jk_ret rfl dJ0_getBytes_840e7_43 jk_qr
/-- two more private methods -/
def zq2_ok (G : jk_G) : Prop := ∀ s (args : Array Value), jk_Z G s → (Cond.selects "java/lang/StringBuilder" yJ5_putStringAt_47b60 yJ5_putStringAt_47b60).before args s = true ∧ (Cond.selects "java/lang/StringBuilder" yJ5_inflateIfNeededFor_a7421 yJ5_inflateIfNeededFor_a7421).before args s = true
theorem c_be_inflIf {G : jk_G} {n : Nat} {t : jk_T} {σ : jk_I} {ρ : jk_P} {b v K : Nat} {L : List Int} {a b9 : Nat} {A9 : List Int} (hbd : be_is t ρ σ b v K L) (hz : zz_ok G) (hso : so_ok G a b9 A9) : jk_K G yJ5_inflateIfNeededFor_a7421 mJ5_inflateIfNeededFor_a7421 0 0 [.ref b, .ref a] n t σ ρ (jk_q none n t σ ρ) jk_no := by
  obtain ⟨⟨hu1, hu2, hu3, hu4, hu5, hu6⟩, hK2, hct, hLK, hby, hel⟩ := id hbd
  refine jk_entryB (ls := [some (.ref b), some (.ref a)]) jm_J5_inflateIfNeededFor_a7421.1 rfl rfl rfl ?_
  refine jk_getsI (q := 3) (x := 1) (zz_cs hz) jw_351 dJ5_inflateIfNeededFor_a7421_0 rfl ?_
  refine jk_ifN_eq (q := 6) (by decide) (by decide) dJ5_inflateIfNeededFor_a7421_3 rfl rfl ?_
  refine jk_aload_n (q := 7) dJ5_inflateIfNeededFor_a7421_6 rfl rfl ?_
  refine jk_getIR (q := 10) (k := 14) 1 1 rfl (by first | exact hu1 | exact hu2 | assumption) (by first | exact jk_row_same _ _ _ | ((repeat rewrite [jk_row_ne _ _ (by omega)]); first | exact jk_row_same _ _ _ | rfl)) rfl rfl jw_361 dJ5_inflateIfNeededFor_a7421_7 rfl ?_
  rw [hu4]
  refine jk_aload_n (q := 11) dJ5_inflateIfNeededFor_a7421_10 rfl rfl ?_
  refine jk_callVO (q := 14) (mc := 0) (ms := 0) (As := []) (fun s hs => (hso.2 s hs).1) (c_own_coder hz hso) jm_J0_coder_7d493 jw_1304 rfl (by decide) (Nat.le_of_ble_eq_true rfl) (Nat.zero_le _) (Nat.zero_le _) (fun x hx => by cases hx) dJ5_inflateIfNeededFor_a7421_11 rfl (fun v' n' t' σ' ρ' hq => ?_) (fun _ _ _ _ _ h => h.elim)
  obtain ⟨rfl, rfl, rfl, rfl, rfl⟩ := hq
  simp only [Option.toList_some, List.cons_append, List.nil_append, Nat.sub_zero]
  refine jk_icmp_eq (q := 21) (q2 := 17) dJ5_inflateIfNeededFor_a7421_14 rfl rfl (by first | assumption | decide | omega | exact jB_01 _ | exact jB_in _ | exact ⟨by omega, by omega⟩) (by first | assumption | decide | omega | exact jB_01 _ | exact jB_in _ | exact ⟨by omega, by omega⟩) (fun z1 => ?_) (fun z1 => ?_)
  · exact jk_ret rfl dJ5_inflateIfNeededFor_a7421_21 (by exact jk_qr)
  · exact absurd rfl ‹_›
theorem c_be_putStringAt {G : jk_G} {n : Nat} {t : jk_T} {σ : jk_I} {ρ : jk_P} {b v K : Nat} {L : List Int} {a b9 : Nat} {A9 : List Int} {d : Int} (hbd : be_is t ρ σ b v K L) (hz : zz_ok G) (hso : so_ok G a b9 A9) (hzq : zq2_ok G) (hd : 0 ≤ d ∧ d + (A9.length : Nat) ≤ (K : Int)) : jk_K G yJ5_putStringAt_47b60 mJ5_putStringAt_47b60 0 0 [.ref b, jI d, .ref a] n t σ ρ (jk_q none n t (jk_row σ v (fun j => if d ≤ j ∧ j < d + (A9.length : Nat) then A9.getD (j - d).toNat 0 else σ v j)) ρ) jk_no := by
  obtain ⟨⟨hu1, hu2, hu3, hu4, hu5, hu6⟩, hK2, hct, hLK, hby, hel⟩ := id hbd
  refine jk_entryB (ls := [some (.ref b), some (jI d), some (.ref a)]) jm_J5_putStringAt_47b60.1 rfl rfl rfl ?_
  refine jk_aload_n (q := 1) dJ5_putStringAt_47b60_0 rfl rfl ?_
  refine jk_aload_n (q := 2) dJ5_putStringAt_47b60_1 rfl rfl ?_
  refine jk_callVS (q := 5) (k := 14) (As := [.ref a]) (fun s args hZ _ => (hzq s args hZ).2) (c_be_inflIf hbd hz hso) jm_J5_inflateIfNeededFor_a7421.1 jm_J5_inflateIfNeededFor_a7421.2 jw_1300 (by first | exact hu1 | exact hu2 | assumption) rfl rfl rfl (Nat.zero_le _) (Nat.zero_le _) rfl dJ5_putStringAt_47b60_2 rfl (fun v' n' t' σ' ρ' hq => ?_) (fun _ _ _ _ _ h => h.elim)
  obtain ⟨rfl, hn9, ht9, hs9, hr9⟩ := hq
  replace hn9 := hn9.symm; replace ht9 := ht9.symm; replace hs9 := hs9.symm; replace hr9 := hr9.symm; subst hn9 ht9 hs9 hr9
  simp only [Option.toList_some, Option.toList_none, List.cons_append, List.nil_append, Nat.sub_zero]
  refine jk_aload_n (q := 6) dJ5_putStringAt_47b60_5 rfl rfl ?_
  refine jk_aload_n (q := 7) dJ5_putStringAt_47b60_6 rfl rfl ?_
  refine jk_getA (q := 10) (k := 14) 0 0 rfl (by first | exact hu1 | exact hu2 | assumption) (by exact hu3) rfl rfl jw_360 dJ5_putStringAt_47b60_7 rfl ?_
  refine jk_iload_n (q := 11) dJ5_putStringAt_47b60_10 rfl rfl ?_
  refine jk_aload_n (q := 12) dJ5_putStringAt_47b60_11 rfl rfl ?_
  refine jk_getIR (q := 15) (k := 14) 1 1 rfl (by first | exact hu1 | exact hu2 | assumption) (by first | exact jk_row_same _ _ _ | ((repeat rewrite [jk_row_ne _ _ (by omega)]); first | exact jk_row_same _ _ _ | rfl)) rfl rfl jw_361 dJ5_putStringAt_47b60_12 rfl ?_
  rw [hu4]
  refine jk_callVO (q := 18) (mc := 0) (ms := 0) (As := [.ref v, jI d, jI 0]) (fun s hs => (hso.2 s hs).1) (c_be_getBytes hz hso hu2 hd hK2) jm_J0_getBytes_840e7 jw_1324 rfl (by decide) (Nat.le_of_ble_eq_true rfl) (Nat.zero_le _) (Nat.zero_le _) (fun x hx => by cases hx) dJ5_putStringAt_47b60_15 rfl (fun v' n' t' σ' ρ' hq => ?_) (fun _ _ _ _ _ h => h.elim)
  obtain ⟨rfl, rfl, rfl, rfl, rfl⟩ := hq
  simp only [Option.toList_some, List.cons_append, List.nil_append, Nat.sub_zero]
  exact jk_ret rfl dJ5_putStringAt_47b60_18 (by exact jk_qr)
theorem c_be_appendS5 {G : jk_G} {n : Nat} {t : jk_T} {σ : jk_I} {ρ : jk_P} {b v K : Nat} {L : List Int} {a b9 : Nat} {A9 : List Int} (hbd : be_is t ρ σ b v K L) (hz : zz_ok G) (hso : so_ok G a b9 A9) (hzp : zp_ok G) (hzq : zq2_ok G) (hb : b < n) (hv : v < n) (hl : L.length + A9.length ≤ 100) : jk_K G yJ5_append_cf1ce mJ5_append_cf1ce 1 200 [.ref b, .ref a] n t σ ρ (be_Q (some (.ref b)) b v n t σ ρ (L ++ A9) 0) jk_no := by
  obtain ⟨⟨hu1, hu2, hu3, hu4, hu5, hu6⟩, hK2, hct, hLK, hby, hel⟩ := id hbd
  refine jk_entryB (ls := [some (.ref b), some (.ref a), none]) jm_J5_append_cf1ce.1 rfl rfl rfl ?_
  refine jk_aload_n (q := 1) dJ5_append_cf1ce_0 rfl rfl ?_
  refine jk_ifnonnull (q := 9) dJ5_append_cf1ce_1 rfl ?_
  refine jk_aload_n (q := 10) dJ5_append_cf1ce_9 rfl rfl ?_
  refine jk_callVO (q := 13) (mc := 0) (ms := 0) (As := []) (fun s hs => (hso.2 s hs).1) (c_own_length hz hso) jm_J0_length_8abf5 jw_1287 rfl (by decide) (Nat.le_of_ble_eq_true rfl) (Nat.zero_le _) (Nat.zero_le _) (fun x hx => by cases hx) dJ5_append_cf1ce_10 rfl (fun v' n' t' σ' ρ' hq => ?_) (fun _ _ _ _ _ h => h.elim)
  obtain ⟨rfl, rfl, rfl, rfl, rfl⟩ := hq
  simp only [Option.toList_some, List.cons_append, List.nil_append, Nat.sub_zero]
  refine jk_istore2 (q := 14) dJ5_append_cf1ce_13 rfl rfl rfl ?_
  refine jk_aload_n (q := 15) dJ5_append_cf1ce_14 rfl rfl ?_
  refine jk_aload_n (q := 16) dJ5_append_cf1ce_15 rfl rfl ?_
  refine jk_getIR (q := 19) (k := 14) 3 3 rfl (by first | exact hu1 | exact hu2 | assumption) (by first | exact jk_row_ne _ _ (by omega) | rfl) rfl rfl jw_364 dJ5_append_cf1ce_16 rfl ?_
  rw [hct]
  refine jk_iload_n (q := 20) dJ5_append_cf1ce_19 rfl rfl ?_
  refine jk_iadd (q := 21) dJ5_append_cf1ce_20 rfl ?_
  refine jk_callVS (q := 24) (k := 14) (As := [jI (((L.length : Int) + ((A9.length : Nat) : Int)))]) (fun s args hZ _ => (hzp s args hZ).1) (c_be_ensure (m := ((L.length : Int) + ((A9.length : Nat) : Int))) hbd hzp hb hv ⟨by omega, by omega⟩) jm_J5_ensureCapacityInternal_d00df.1 jm_J5_ensureCapacityInternal_d00df.2 jw_1225 (by first | exact hu1 | exact hu2 | assumption) rfl rfl rfl (by decide) (by decide) rfl dJ5_append_cf1ce_21 rfl (fun v' n' t' σ' ρ' hq => ?_) (fun _ _ _ _ _ h => h.elim)
  obtain ⟨rfl, w, K1, hbd1, hmK, hfr⟩ := hq
  simp only [Option.toList_some, Option.toList_none, List.cons_append, List.nil_append]
  obtain ⟨⟨hu1, hu2, hu3, hu4, hu5, hu6⟩, hK2, hct, hLK, hby, hel⟩ := id hbd1
  refine jk_aload_n (q := 25) dJ5_append_cf1ce_24 rfl rfl ?_
  refine jk_aload_n (q := 26) dJ5_append_cf1ce_25 rfl rfl ?_
  refine jk_getIR (q := 29) (k := 14) 3 3 rfl (by first | exact hu1 | exact hu2 | assumption) (by first | exact jk_row_ne _ _ (by omega) | rfl) rfl rfl jw_364 dJ5_append_cf1ce_26 rfl ?_
  rw [hct]
  refine jk_aload_n (q := 30) dJ5_append_cf1ce_29 rfl rfl ?_
  refine jk_callVS (q := 33) (k := 14) (As := [jI (L.length : Int), .ref a]) (fun s args hZ _ => (hzq s args hZ).1) (c_be_putStringAt (d := (L.length : Int)) hbd1 hz hso hzq ⟨by omega, by omega⟩) jm_J5_putStringAt_47b60.1 jm_J5_putStringAt_47b60.2 jw_1296 (by first | exact hu1 | exact hu2 | assumption) rfl rfl rfl (Nat.zero_le _) (Nat.zero_le _) rfl dJ5_append_cf1ce_30 rfl (fun v' n' t' σ' ρ' hq => ?_) (fun _ _ _ _ _ h => h.elim)
  obtain ⟨rfl, hn9, ht9, hs9, hr9⟩ := hq
  replace hn9 := hn9.symm; replace ht9 := ht9.symm; replace hs9 := hs9.symm; replace hr9 := hr9.symm; subst hn9 ht9 hs9 hr9
  simp only [Option.toList_some, Option.toList_none, List.cons_append, List.nil_append, Nat.sub_zero]
  refine jk_aload_n (q := 34) dJ5_append_cf1ce_33 rfl rfl ?_
  refine jk_dup (q := 35) dJ5_append_cf1ce_34 rfl rfl ?_
  refine jk_getIR (q := 38) (k := 14) 3 3 rfl (by first | exact hu1 | exact hu2 | assumption) (by first | exact jk_row_ne _ _ (by omega) | rfl) rfl rfl jw_364 dJ5_append_cf1ce_35 rfl ?_
  rw [hct]
  refine jk_iload_n (q := 39) dJ5_append_cf1ce_38 rfl rfl ?_
  refine jk_iadd (q := 40) dJ5_append_cf1ce_39 rfl ?_
  refine jk_putIR (q := 43) (k := 14) 3 3 rfl (by first | exact hu1 | exact hu2 | assumption) (by first | exact jk_row_ne _ _ (by omega) | rfl) rfl rfl rfl jw_364 dJ5_append_cf1ce_40 rfl ?_
  refine jk_aload_n (q := 44) dJ5_append_cf1ce_43 rfl rfl ?_
  exact jk_aret rfl (by first | exact Or.inl ⟨_, rfl⟩ | exact Or.inr ⟨_, rfl⟩) dJ5_append_cf1ce_44 (by exact ⟨rfl, w, K1, be_appL hbd1 (by omega) hso.1.2 (by rw [jk_row_same]) (fun j => by rw [jk_row_ne _ _ (by omega), jk_row_same]), Nat.zero_le _, bd_frW hfr (fun a h1 h2 => by rw [jk_row_ne _ _ h1, jk_row_ne _ _ h2])⟩)
theorem c_be_appendS {G : jk_G} {n : Nat} {t : jk_T} {σ : jk_I} {ρ : jk_P} {b v K : Nat} {L : List Int} {a b9 : Nat} {A9 : List Int} (hbd : be_is t ρ σ b v K L) (hz : zz_ok G) (hso : so_ok G a b9 A9) (hzp : zp_ok G) (hzq : zq2_ok G) (hb : b < n) (hv : v < n) (hl : L.length + A9.length ≤ 100) : jk_K G yJ4_append_15ec4 mJ4_append_15ec4 1 200 [.ref b, .ref a] n t σ ρ (be_Q (some (.ref b)) b v n t σ ρ (L ++ A9) 0) jk_no := by
  obtain ⟨⟨hu1, hu2, hu3, hu4, hu5, hu6⟩, hK2, hct, hLK, hby, hel⟩ := id hbd
  refine jk_entryB (ls := [some (.ref b), some (.ref a)]) jm_J4_append_15ec4.1 rfl rfl rfl ?_
  refine jk_aload_n (q := 1) dJ4_append_15ec4_0 rfl rfl ?_
  refine jk_aload_n (q := 2) dJ4_append_15ec4_1 rfl rfl ?_
  refine jk_callSU (q := 5) (k := 14) (As := [.ref a]) (c_be_appendS5 hbd hz hso hzp hzq hb hv hl) jm_J5_append_cf1ce.1 (by decide) jm_J5_append_cf1ce.2 jw_1747 jw_373 jw_1218 (by first | exact hu1 | exact hu2 | assumption) rfl rfl rfl (by decide) (by decide) rfl dJ4_append_15ec4_2 rfl (fun v' n' t' σ' ρ' hq => ?_) (fun _ _ _ _ _ h => h.elim)
  obtain ⟨rfl, hq⟩ := hq
  simp only [Option.toList_some, Option.toList_none, List.cons_append, List.nil_append]
  refine jk_pop (q := 6) dJ4_append_15ec4_5 rfl rfl ?_
  refine jk_aload_n (q := 7) dJ4_append_15ec4_6 rfl rfl ?_
  exact jk_aret rfl (by first | exact Or.inl ⟨_, rfl⟩ | exact Or.inr ⟨_, rfl⟩) dJ4_append_15ec4_7 (by exact ⟨rfl, hq⟩)
end PB
