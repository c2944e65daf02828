section PC
theorem jk_putBF {G : jk_G} {M : jk_M} {pc q : Nat} {ls : List (Option Value)} {st : List Value} {n : Nat} {t : jk_T} {σ : jk_I} {ρ : jk_P} {rc rs : Nat} {Q : jk_Q} {X : jk_X} {a k index : Nat} {x : Int} (i : Nat) (ii : Int) (hii : (i : Int) = ii) (ht : t a = some (.inr k)) (hi : Nat.blt i (jk_cl k).2.2.1 = true) (hfin : ((jk_cl k).2.1 i).2.2.2 = true) (hini : jk_ini M = true) (hdecl : ((jk_cl k).2.1 i).1 = jk_own M) (hy : (jk_cl k).2.2.2 i = .byte) (hx : x = 0) (hw : Cond.fieldLink (jk_own M) index ((jk_cl k).2.1 i).1 ((jk_cl k).2.1 i).2.1 ((jk_cl k).2.1 i).2.2.1 ∈ jk_WS) (hd : decode (jk_cc M) pc = .ok (.putfield index, 3)) (hp : pc + 3 = q) (kk : jk_J G M q ls st n t (jk_up σ a ii x) ρ rc rs Q X) : jk_J G M pc ls (jI x :: .ref a :: st) n t σ ρ rc rs Q X := by
  subst hii hx; exact jk_putF ht (Nat.blt_eq.mp hi) hfin hini hdecl (by rw [hy]; rfl) (by rw [hy]; rfl) (by rw [hy, jk_up_same]; rfl) (fun b j h => jk_up_ne σ 0 h) (fun _ _ _ => rfl) hw hd hp kk
/-- k bytes of v, new at n -/
def cr_Q (v k n : Nat) (t : jk_T) (σ : jk_I) (ρ : jk_P) : jk_Q := fun v' n' t' σ' ρ' => v' = some (.ref n) ∧ n' = n + 2 ∧ t' = jk_tg t n (.inl (.byte, k)) ∧ ρ' = jk_zr ρ n none ∧ (∀ a, a ≠ n → σ' a = σ a) ∧ ∀ j : Int, 0 ≤ j ∧ j < (k : Int) → σ' n j = σ v j
theorem c_be_checkLength {G : jk_G} {n : Nat} {t : jk_T} {σ : jk_I} {ρ : jk_P} {k : Int} (hk : 0 ≤ k ∧ k ≤ 1000) : jk_K G yJ7_checkLength_df160 mJ7_checkLength_df160 0 0 [jI 0, jI k] n t σ ρ (jk_q none n t σ ρ) jk_no := by
  refine jk_entryB (ls := [some (jI 0), some (jI k)]) jm_J7_checkLength_df160.1 rfl rfl rfl ?_
  refine jk_iload_n (q := 1) dJ7_checkLength_df160_0 rfl rfl ?_
  refine jk_iload_n (q := 2) dJ7_checkLength_df160_1 rfl rfl ?_
  refine jk_icmp_ge (q := 37) (q2 := 5) dJ7_checkLength_df160_2 rfl rfl (by first | assumption | decide | omega | exact jB_01 _ | exact jB_in _ | exact ⟨by omega, by omega⟩) (by first | assumption | decide | omega | exact jB_01 _ | exact jB_in _ | exact ⟨by omega, by omega⟩) (fun z1 => ?_) (fun z1 => ?_)
  · exact jk_ret rfl dJ7_checkLength_df160_37 (by exact jk_qr)
  · exfalso; omega
theorem c_be_cORB {G : jk_G} {n : Nat} {t : jk_T} {σ : jk_I} {ρ : jk_P} {v K k : Nat} (hv : t v = some (.inl (.byte, K))) (hvn : v < n) (hK : k ≤ K ∧ K ≤ 200) (hby : ∀ j : Int, 0 ≤ j ∧ j < (K : Int) → 0 ≤ σ v j ∧ σ v j < 128) : jk_K G yJ7_copyOfRangeByte_39247 mJ7_copyOfRangeByte_39247 1 200 [.ref v, jI 0, jI (k : Int)] n t σ ρ (cr_Q v k n t σ ρ) jk_no := by
  refine jk_entryB (ls := [some (.ref v), some (jI 0), some (jI (k : Int)), none, none]) jm_J7_copyOfRangeByte_39247.1 rfl rfl rfl ?_
  refine jk_iload_n (q := 1) dJ7_copyOfRangeByte_39247_0 rfl rfl ?_
  refine jk_iload_n (q := 2) dJ7_copyOfRangeByte_39247_1 rfl rfl ?_
  refine jk_cS2v (q := 5) (c_be_checkLength ⟨by omega, by omega⟩) jm_J7_checkLength_df160 jw_1388 rfl rfl rfl dJ7_copyOfRangeByte_39247_2 rfl ?_
  refine jk_iload_n (q := 6) dJ7_copyOfRangeByte_39247_5 rfl rfl ?_
  refine jk_iload_n (q := 7) dJ7_copyOfRangeByte_39247_6 rfl rfl ?_
  refine jk_isub (q := 8) dJ7_copyOfRangeByte_39247_7 rfl ?_
  rw [Int.sub_zero]
  refine jk_istore3 (q := 9) dJ7_copyOfRangeByte_39247_8 rfl rfl rfl ?_
  refine jk_iload_n (q := 10) dJ7_copyOfRangeByte_39247_9 rfl rfl ?_
  refine jk_newarr (q := 12) (atype := .byte) (ty := .byte) (len := k) rfl jw_374 rfl (by first | decide | omega) (by first | decide | omega) (by first | decide | omega) dJ7_copyOfRangeByte_39247_10 rfl ?_
  refine jk_astore4 (q := 14) dJ7_copyOfRangeByte_39247_12 rfl rfl rfl ?_
  refine jk_aload_n (q := 15) dJ7_copyOfRangeByte_39247_14 rfl rfl ?_
  refine jk_iload_n (q := 16) dJ7_copyOfRangeByte_39247_15 rfl rfl ?_
  refine jk_aload (q := 18) dJ7_copyOfRangeByte_39247_16 rfl rfl ?_
  refine jk_iconst (q := 19) dJ7_copyOfRangeByte_39247_18 rfl ?_
  refine jk_aload_n (q := 20) dJ7_copyOfRangeByte_39247_19 rfl rfl ?_
  refine jk_alen (q := 21) (by first | assumption | exact if_pos rfl | exact (if_neg (by omega)).trans hv) dJ7_copyOfRangeByte_39247_20 rfl ?_
  refine jk_iload_n (q := 22) dJ7_copyOfRangeByte_39247_21 rfl rfl ?_
  refine jk_isub (q := 23) dJ7_copyOfRangeByte_39247_22 rfl ?_
  refine jk_iload_n (q := 24) dJ7_copyOfRangeByte_39247_23 rfl rfl ?_
  rw [Int.sub_zero]
  refine jk_mmin (q := 27) jw_1252 rfl rfl (by first | assumption | decide | omega | exact jB_01 _ | exact jB_in _ | exact ⟨by omega, by omega⟩) (by first | assumption | decide | omega | exact jB_01 _ | exact jB_in _ | exact ⟨by omega, by omega⟩) dJ7_copyOfRangeByte_39247_24 rfl ?_
  rw [show (if (k : Int) < (K : Int) then (k : Int) else (K : Int)) = (k : Int) by split <;> omega]
  refine jk_copyb (q := 30) (by first | assumption | exact if_pos rfl | exact (if_neg (by omega)).trans hv) (by first | assumption | exact if_pos rfl | exact (if_neg (by omega)).trans hv) (by first | assumption | decide | omega | exact jB_01 _ | exact jB_in _ | exact ⟨by omega, by omega⟩) (by intro j hj; rw [jk_zr_row _ _ (by omega)]; exact hby j ⟨by omega, by omega⟩) jw_1253 rfl rfl dJ7_copyOfRangeByte_39247_27 rfl ?_
  refine jk_aload (q := 32) dJ7_copyOfRangeByte_39247_30 rfl rfl ?_
  exact jk_aret rfl (by first | exact Or.inl ⟨_, rfl⟩ | exact Or.inr ⟨_, rfl⟩) dJ7_copyOfRangeByte_39247_32 (by exact ⟨rfl, rfl, rfl, rfl, fun a ha => by rw [jk_row_ne _ _ ha, jk_zr_row _ _ ha], fun j hj => by rw [jk_row_same, if_pos hj, jk_zr_row _ _ (by omega)]⟩)
theorem c_be_copyOfRange {G : jk_G} {n : Nat} {t : jk_T} {σ : jk_I} {ρ : jk_P} {v K k : Nat} (hv : t v = some (.inl (.byte, K))) (hvn : v < n) (hK : k ≤ K ∧ K ≤ 200) (hby : ∀ j : Int, 0 ≤ j ∧ j < (K : Int) → 0 ≤ σ v j ∧ σ v j < 128) : jk_K G yJ7_copyOfRange_39247 mJ7_copyOfRange_39247 1 200 [.ref v, jI 0, jI (k : Int)] n t σ ρ (cr_Q v k n t σ ρ) jk_no := by
  refine jk_entryB (ls := [some (.ref v), some (jI 0), some (jI (k : Int))]) jm_J7_copyOfRange_39247.1 rfl rfl rfl ?_
  refine jk_iload_n (q := 1) dJ7_copyOfRange_39247_0 rfl rfl ?_
  refine jk_ifN_ne (q := 4) (by decide) (by decide) dJ7_copyOfRange_39247_1 rfl rfl ?_
  refine jk_iload_n (q := 5) dJ7_copyOfRange_39247_4 rfl rfl ?_
  refine jk_aload_n (q := 6) dJ7_copyOfRange_39247_5 rfl rfl ?_
  refine jk_alen (q := 7) (by assumption) dJ7_copyOfRange_39247_6 rfl ?_
  refine jk_icmp_eq (q := 17) (q2 := 10) dJ7_copyOfRange_39247_7 rfl rfl (by first | assumption | decide | omega | exact jB_01 _ | exact jB_in _ | exact ⟨by omega, by omega⟩) (by first | assumption | decide | omega | exact jB_01 _ | exact jB_in _ | exact ⟨by omega, by omega⟩) (fun z1 => ?_) (fun z1 => ?_)
  · have hkK : k = K := by omega
    subst hkK
    refine jk_aload_n (q := 18) dJ7_copyOfRange_39247_17 rfl rfl ?_
    refine jk_cloneb (q := 21) hv hby jw_1245 rfl rfl (by decide) (by omega) dJ7_copyOfRange_39247_18 rfl ?_
    refine jk_castb (q := 24) (len := k) (if_pos rfl) jw_1251 dJ7_copyOfRange_39247_21 rfl ?_
    exact jk_aret rfl (by first | exact Or.inl ⟨_, rfl⟩ | exact Or.inr ⟨_, rfl⟩) dJ7_copyOfRange_39247_24 (by exact ⟨rfl, rfl, rfl, rfl, fun a ha => jk_row_ne _ _ ha, fun j hj => by rw [jk_row_same]⟩)
  · refine jk_aload_n (q := 11) dJ7_copyOfRange_39247_10 rfl rfl ?_
    refine jk_iload_n (q := 12) dJ7_copyOfRange_39247_11 rfl rfl ?_
    refine jk_iload_n (q := 13) dJ7_copyOfRange_39247_12 rfl rfl ?_
    refine jk_cS3g (q := 16) (c_be_cORB hv hvn hK hby) jm_J7_copyOfRangeByte_39247 jw_1385 rfl rfl (by decide) (by decide) rfl dJ7_copyOfRange_39247_13 rfl (fun v' n' t' σ' ρ' hq => ?_) (fun _ _ _ _ _ h => h.elim)
    obtain ⟨rfl, hq⟩ := hq
    simp only [Option.toList_some, List.cons_append, List.nil_append, Nat.sub_zero]
    exact jk_aret rfl (by first | exact Or.inl ⟨_, rfl⟩ | exact Or.inr ⟨_, rfl⟩) dJ7_copyOfRange_39247_16 (by exact ⟨rfl, hq⟩)
theorem c_be_sinit2 {G : jk_G} {n : Nat} {t : jk_T} {σ : jk_I} {ρ : jk_P} {s9 : Nat} {b v K : Nat} {L : List Int} (hbd : be_is t ρ σ b v K L) (hz : zz_ok G) (hs1 : t s9 = some (.inr 13)) (hb : b < s9) (hv : v < s9) (hn : n = s9 + 2) : jk_K G yJ0_init_db425 mJ0_init_db425 1 200 [.ref s9, .ref b, .null] n t σ ρ (fun v' n' t' σ' ρ' => v' = none ∧ n' = n + 2 ∧ (∀ a, a < s9 → t' a = t a ∧ σ' a = σ a ∧ ρ' a = ρ a) ∧ sm_is t' ρ' σ' s9 n L) jk_no := by
  obtain ⟨⟨hu1, hu2, hu3, hu4, hu5, hu6⟩, hK2, hct, hLK, hby, hel⟩ := id hbd
  have hvn : v < n := by omega
  refine jk_entryB (ls := [some (.ref s9), some (.ref b), some .null, none, none]) jm_J0_init_db425.1 rfl rfl rfl ?_
  refine jk_aload_n (q := 1) dJ0_init_db425_0 rfl rfl ?_
  refine jk_obj (q := 4) jw_1367 rfl rfl dJ0_init_db425_1 rfl ?_
  refine jk_aload_n (q := 5) dJ0_init_db425_4 rfl rfl ?_
  refine jk_callVS (q := 8) (k := 14) (As := []) (fun s args _ h => h _ jw_1371) (c_be_getValue hbd) jm_J5_getValue_6d5f1.1 jm_J5_getValue_6d5f1.2 jw_1368 hu1 rfl rfl rfl (Nat.zero_le _) (Nat.zero_le _) rfl dJ0_init_db425_5 rfl (fun v' n' t' σ' ρ' hq => ?_) (fun _ _ _ _ _ h => h.elim)
  obtain ⟨rfl, hn9, ht9, hs9, hr9⟩ := hq
  replace hn9 := hn9.symm; replace ht9 := ht9.symm; replace hs9 := hs9.symm; replace hr9 := hr9.symm; subst hn9 ht9 hs9 hr9
  simp only [Option.toList_some, List.cons_append, List.nil_append, Nat.sub_zero]
  refine jk_astore3 (q := 9) dJ0_init_db425_8 rfl rfl rfl ?_
  refine jk_aload_n (q := 10) dJ0_init_db425_9 rfl rfl ?_
  refine jk_callUV (q := 13) (k := 14) (owner := "java/lang/AbstractStringBuilder") (x := ⟨"java/lang/AbstractStringBuilder", "length", "()I"⟩) (mc := 0) (ms := 0) (As := []) (rest := []) (c_be_length4 hbd) jm_J4_length_8abf5.1 jw_1377 jw_1374 jw_1380 (by decide) (by decide +kernel) jw_1376 jw_1375 jw_1373 hu1 rfl rfl rfl (Nat.zero_le _) (Nat.zero_le _) rfl dJ0_init_db425_10 rfl (fun v' n' t' σ' ρ' hq => ?_) (fun _ _ _ _ _ h => h.elim)
  obtain ⟨rfl, hn9, ht9, hs9, hr9⟩ := hq
  replace hn9 := hn9.symm; replace ht9 := ht9.symm; replace hs9 := hs9.symm; replace hr9 := hr9.symm; subst hn9 ht9 hs9 hr9
  simp only [Option.toList_some, List.cons_append, List.nil_append, Nat.sub_zero]
  refine jk_istore4 (q := 15) dJ0_init_db425_13 rfl rfl rfl ?_
  refine jk_aload_n (q := 16) dJ0_init_db425_15 rfl rfl ?_
  refine jk_callVS (q := 19) (k := 14) (As := []) (fun s args _ h => h _ jw_1259) (c_be_isLatin1 hz hbd) jm_J5_isLatin1_aae02.1 jm_J5_isLatin1_aae02.2 jw_1381 hu1 rfl rfl rfl (Nat.zero_le _) (Nat.zero_le _) rfl dJ0_init_db425_16 rfl (fun v' n' t' σ' ρ' hq => ?_) (fun _ _ _ _ _ h => h.elim)
  obtain ⟨rfl, hn9, ht9, hs9, hr9⟩ := hq
  replace hn9 := hn9.symm; replace ht9 := ht9.symm; replace hs9 := hs9.symm; replace hr9 := hr9.symm; subst hn9 ht9 hs9 hr9
  simp only [Option.toList_some, List.cons_append, List.nil_append, Nat.sub_zero]
  refine jk_ifB_eq (q := 41) (q2 := 22) dJ0_init_db425_19 rfl rfl (fun h9 => absurd h9 (by decide)) (fun h9 => ?_)
  refine jk_aload_n (q := 23) dJ0_init_db425_22 rfl rfl ?_
  refine jk_iconst (q := 24) dJ0_init_db425_23 rfl ?_
  refine jk_putBF (q := 27) (k := 13) 1 1 rfl hs1 rfl rfl rfl rfl rfl rfl jw_1413 dJ0_init_db425_24 rfl ?_
  refine jk_aload_n (q := 28) dJ0_init_db425_27 rfl rfl ?_
  refine jk_aload_n (q := 29) dJ0_init_db425_28 rfl rfl ?_
  refine jk_iconst (q := 30) dJ0_init_db425_29 rfl ?_
  refine jk_iload (q := 32) dJ0_init_db425_30 rfl rfl ?_
  refine jk_cS3g (q := 35) (c_be_copyOfRange (k := L.length) (v := v) (K := K) hu2 hvn ⟨hLK, hK2⟩ (fun j hj => by rw [jk_up_row _ _ _ (by omega)]; exact hby j hj)) jm_J7_copyOfRange_39247 jw_1382 rfl rfl (by decide) (by decide) rfl dJ0_init_db425_32 rfl (fun v' n' t' σ' ρ' hq => ?_) (fun _ _ _ _ _ h => h.elim)
  obtain ⟨rfl, rfl, rfl, rfl, hf9, hr9⟩ := hq
  simp only [Option.toList_some, List.cons_append, List.nil_append]
  refine jk_putAF (q := 38) (k := 13) 0 0 rfl ((if_neg (by omega)).trans hs1) rfl rfl rfl rfl (Or.inr ⟨_, rfl⟩) jw_1412 dJ0_init_db425_35 rfl ?_
  refine jk_goto (q := 97) dJ0_init_db425_38 rfl ?_
  exact jk_ret rfl dJ0_init_db425_97 (by exact ⟨rfl, rfl, fun a ha => ⟨if_neg (by omega), (hf9 a (by omega)).trans (jk_up_row _ _ _ (by omega)), (jk_up_row _ _ _ (by omega)).trans (jk_zr_row _ _ (by omega))⟩, (if_neg (by omega)).trans hs1, if_pos rfl, jk_up_same _ _ _ _, by rw [hf9 s9 (by omega), jk_up_same], by omega, fun i hi => ⟨by rw [hr9 _ ⟨by omega, by omega⟩, jk_up_row _ _ _ (by omega)]; exact hel i hi, by have := hby (i : Int) ⟨by omega, by omega⟩; rw [hel i hi] at this; exact this⟩⟩)
theorem c_be_sinit {G : jk_G} {n : Nat} {t : jk_T} {σ : jk_I} {ρ : jk_P} {s9 : Nat} {b v K : Nat} {L : List Int} (hbd : be_is t ρ σ b v K L) (hz : zz_ok G) (hs1 : t s9 = some (.inr 13)) (hb : b < s9) (hv : v < s9) (hn : n = s9 + 2) : jk_K G yJ0_init_81219 mJ0_init_81219 1 200 [.ref s9, .ref b] n t σ ρ (fun v' n' t' σ' ρ' => v' = none ∧ n' = n + 2 ∧ (∀ a, a < s9 → t' a = t a ∧ σ' a = σ a ∧ ρ' a = ρ a) ∧ sm_is t' ρ' σ' s9 n L) jk_no := by
  refine jk_entryB (ls := [some (.ref s9), some (.ref b)]) jm_J0_init_81219.1 rfl rfl rfl ?_
  refine jk_aload_n (q := 1) dJ0_init_81219_0 rfl rfl ?_
  refine jk_aload_n (q := 2) dJ0_init_81219_1 rfl rfl ?_
  refine jk_null (q := 3) dJ0_init_81219_2 rfl ?_
  refine jk_cI2g (q := 6) (c_be_sinit2 hbd hz hs1 hb hv hn) jm_J0_init_db425 jw_1364 rfl rfl (by decide) (by decide) rfl dJ0_init_81219_3 rfl (fun v' n' t' σ' ρ' hq => ?_) (fun _ _ _ _ _ h => h.elim)
  obtain ⟨rfl, hq⟩ := hq
  simp only [Option.toList_none, List.nil_append]
  exact jk_ret rfl dJ0_init_81219_6 ⟨rfl, hq⟩
theorem c_be_toString {G : jk_G} {n : Nat} {t : jk_T} {σ : jk_I} {ρ : jk_P} {b v K : Nat} {L : List Int} (hbd : be_is t ρ σ b v K L) (hz : zz_ok G) (hb : b < n) (hv : v < n) : jk_K G yJ4_toString_0e30d mJ4_toString_0e30d 2 204 [.ref b] n t σ ρ (fun v' n' t' σ' ρ' => v' = some (.ref n) ∧ n' = n + 4 ∧ (∀ a, a < n → t' a = t a ∧ σ' a = σ a ∧ ρ' a = ρ a) ∧ sm_is t' ρ' σ' n (n + 2) L) jk_no := by
  refine jk_entryB (ls := [some (.ref b)]) jm_J4_toString_0e30d.1 rfl rfl rfl ?_
  refine jk_new (q := 3) (k := 13) jw_1359 jw_1360 jw_13 (by decide) (by decide) dJ4_toString_0e30d_0 rfl ?_
  refine jk_dup (q := 4) dJ4_toString_0e30d_3 rfl rfl ?_
  refine jk_aload_n (q := 5) dJ4_toString_0e30d_4 rfl rfl ?_
  refine jk_cI1g (q := 8) (c_be_sinit (s9 := n) (be_same hbd ⟨if_neg (by omega), jk_zr_row _ _ (by omega), jk_zr_row _ _ (by omega)⟩ ⟨if_neg (by omega), jk_zr_row _ _ (by omega)⟩) hz (if_pos rfl) hb hv rfl) jm_J0_init_81219 jw_1361 rfl rfl (by decide) (by decide) rfl dJ4_toString_0e30d_5 rfl (fun v' n' t' σ' ρ' hq => ?_) (fun _ _ _ _ _ h => h.elim)
  obtain ⟨rfl, rfl, hf, hq⟩ := hq
  simp only [Option.toList_none, List.nil_append]
  exact jk_aret rfl (Or.inl ⟨_, rfl⟩) dJ4_toString_0e30d_8 ⟨rfl, rfl, fun a ha => ⟨(hf a ha).1.trans (if_neg (by omega)), (hf a ha).2.1.trans (jk_zr_row _ _ (by omega)), (hf a ha).2.2.trans (jk_zr_row _ _ (by omega))⟩, hq⟩
end PC
