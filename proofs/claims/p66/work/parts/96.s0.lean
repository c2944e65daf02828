section S0
theorem jk_andv {x : Int} (h : 0 ≤ x ∧ x < 2147483648) : Int32.ofInt x &&& Int32.ofInt 255 = Int32.ofInt (x % 256) := by
  obtain ⟨j, rfl⟩ : ∃ j : Nat, x = (j : Int) := ⟨x.toNat, by omega⟩
  have e : Int32.ofInt (j : Int) = nI j := Int32.ofInt_eq_ofNat
  have e2 : Int32.ofInt ((j : Int) % 256) = nI (j % 2 ^ 8) := by
    rw [show (j : Int) % 256 = ((j % 2 ^ 8 : Nat) : Int) by omega]
    exact Int32.ofInt_eq_ofNat
  rw [e, e2]
  exact pk_andN (by omega) 8 (by decide)
section JS
variable {G : jk_G} {M : jk_M} {pc q : Nat} {ls : List (Option Value)} {st : List Value} {n : Nat} {t : jk_T} {σ : jk_I} {ρ : jk_P} {rc rs : Nat} {Q : jk_Q} {X : jk_X}
theorem jk_iand255 {x : Int} (hd : decode (jk_cc M) pc = .ok (.iand, 1)) (hp : pc + 1 = q) (h : 0 ≤ x ∧ x < 2147483648) (k : jk_J G M q ls (jI (x % 256) :: st) n t σ ρ rc rs Q X) : jk_J G M pc ls (jI 255 :: jI x :: st) n t σ ρ rc rs Q X := by
  subst hp
  exact jk_pure (fun p e R s m args below meth c H locs cells slots ls' Qf hx hb kk => lv_iand hx hb hd (by rw [jk_andv h]; exact kk)) k
theorem jk_lsw {x dflt off : Int} {ps : Array (Int × Int)} {len : Nat} (hx : jk_in x) (hd : decode (jk_cc M) pc = .ok (.lookupswitch dflt ps, len)) (hinc : (ps.toList.zip (ps.toList.drop 1)).all (fun (a, next) => a.1 < next.1) = true) (ho : Op.lookupswitch.offset ps.toList dflt x = off) (ht : (pc : Int) + off = (q : Int)) (k : jk_J G M q ls st n t σ ρ rc rs Q X) : jk_J G M pc ls (jI x :: st) n t σ ρ rc rs Q X :=
  jk_pure (fun p e R s m args below meth c H locs cells slots ls' Qf hx9 hb kk => lv_lookup hx9 hb hd hinc (by rw [jk_ti hx]; exact ho) ht kk) k
theorem jk_getsV {index : Nat} {v : Value} {ref nm ds : String} (hz : ∀ s, jk_Z G s → va_Z ref nm ds (jk_re G v) (jk_A G) s s.heap) (hw : Cond.fieldLink (jk_own M) index ref nm ds ∈ jk_WS) (hd : decode (jk_cc M) pc = .ok (.getstatic index, 3)) (hp : pc + 3 = q) (kk : jk_J G M q ls (v :: st) n t σ ρ rc rs Q X) : jk_J G M pc ls st n t σ ρ rc rs Q X := by
  subst hp
  intro p e R s m args below meth c H locs cells slots ls' C hl hR hS hc hs
  exact va_gets C.1 C.2.1 (hz s C.2.2.2.2.2.2.2.2.2.2.2.2.1) hS C.2.2.2.2.2.1 (C.2.2.2.2.2.2.1 _ hw) (fun _ h => h) hd (kk p e R s m args below meth c H locs cells slots ls' C hl hR hS hc hs)
end JS
/-- the formatter of the index messages: some object, or none -/
def zv_ok (G : jk_G) : Prop := ∃ v : Value, (v = .null ∨ ∃ a, v = .ref a) ∧ ∀ s, jk_Z G s → va_Z "jdk/internal/util/Preconditions" "SIOOBE_FORMATTER" "Ljava/util/function/BiFunction;" (jk_re G v) (jk_A G) s s.heap
theorem c_J3_checkIndexN {G : jk_G} {n : Nat} {t : jk_T} {σ : jk_I} {ρ : jk_P} {i len : Int} {a : Nat} (hi : 0 ≤ i ∧ i < len) (hl : len < 2147483648) : jk_K G yJ3_checkIndex_8e157 mJ3_checkIndex_8e157 0 0 [jI i, jI len, .null] n t σ ρ (jk_q (some (jI i)) n t σ ρ) jk_no := by
  refine jk_entryB (ls := [some (jI i), some (jI len), some (.null)]) jm_J3_checkIndex_8e157.1 rfl rfl rfl ?_
  refine jk_iload_n (q := 1) dJ3_checkIndex_8e157_0 rfl rfl ?_
  refine jk_if_lt (q := 9) (q2 := 4) dJ3_checkIndex_8e157_1 rfl rfl (by first | assumption | decide | omega | exact jB_01 _ | exact jB_in _ | exact ⟨by omega, by omega⟩) (fun z1 => ?_) (fun z1 => ?_)
  · exfalso; omega
  · refine jk_iload_n (q := 5) dJ3_checkIndex_8e157_4 rfl rfl ?_
    refine jk_iload_n (q := 6) dJ3_checkIndex_8e157_5 rfl rfl ?_
    refine jk_icmp_lt (q := 16) (q2 := 9) dJ3_checkIndex_8e157_6 rfl rfl (by first | assumption | decide | omega | exact jB_01 _ | exact jB_in _ | exact ⟨by omega, by omega⟩) (by first | assumption | decide | omega | exact jB_01 _ | exact jB_in _ | exact ⟨by omega, by omega⟩) (fun z2 => ?_) (fun z2 => ?_)
    · refine jk_iload_n (q := 17) dJ3_checkIndex_8e157_16 rfl rfl ?_
      exact jk_iret rfl dJ3_checkIndex_8e157_17 (by first | exact jk_qr | (refine jk_qT ?_; grind) | (refine jk_qF ?_; grind) | (refine jk_qI ?_; grind))
    · exfalso; omega
theorem c_J3_checkIndexR {G : jk_G} {n : Nat} {t : jk_T} {σ : jk_I} {ρ : jk_P} {i len : Int} {a : Nat} (hi : 0 ≤ i ∧ i < len) (hl : len < 2147483648) : jk_K G yJ3_checkIndex_8e157 mJ3_checkIndex_8e157 0 0 [jI i, jI len, .ref a] n t σ ρ (jk_q (some (jI i)) n t σ ρ) jk_no := by
  refine jk_entryB (ls := [some (jI i), some (jI len), some (.ref a)]) jm_J3_checkIndex_8e157.1 rfl rfl rfl ?_
  refine jk_iload_n (q := 1) dJ3_checkIndex_8e157_0 rfl rfl ?_
  refine jk_if_lt (q := 9) (q2 := 4) dJ3_checkIndex_8e157_1 rfl rfl (by first | assumption | decide | omega | exact jB_01 _ | exact jB_in _ | exact ⟨by omega, by omega⟩) (fun z1 => ?_) (fun z1 => ?_)
  · exfalso; omega
  · refine jk_iload_n (q := 5) dJ3_checkIndex_8e157_4 rfl rfl ?_
    refine jk_iload_n (q := 6) dJ3_checkIndex_8e157_5 rfl rfl ?_
    refine jk_icmp_lt (q := 16) (q2 := 9) dJ3_checkIndex_8e157_6 rfl rfl (by first | assumption | decide | omega | exact jB_01 _ | exact jB_in _ | exact ⟨by omega, by omega⟩) (by first | assumption | decide | omega | exact jB_01 _ | exact jB_in _ | exact ⟨by omega, by omega⟩) (fun z2 => ?_) (fun z2 => ?_)
    · refine jk_iload_n (q := 17) dJ3_checkIndex_8e157_16 rfl rfl ?_
      exact jk_iret rfl dJ3_checkIndex_8e157_17 (by first | exact jk_qr | (refine jk_qT ?_; grind) | (refine jk_qF ?_; grind) | (refine jk_qI ?_; grind))
    · exfalso; omega
theorem c_J0_checkIndex {G : jk_G} {n : Nat} {t : jk_T} {σ : jk_I} {ρ : jk_P} {i len : Int} (hv : zv_ok G) (hi : 0 ≤ i ∧ i < len) (hl : len < 2147483648) : jk_K G yJ0_checkIndex_df160 mJ0_checkIndex_df160 0 0 [jI i, jI len] n t σ ρ (jk_q none n t σ ρ) jk_no := by
  obtain ⟨v, hv1, hv2⟩ := hv
  refine jk_entryB (ls := [some (jI i), some (jI len)]) jm_J0_checkIndex_df160.1 rfl rfl rfl ?_
  refine jk_iload_n (q := 1) dJ0_checkIndex_df160_0 rfl rfl ?_
  refine jk_iload_n (q := 2) dJ0_checkIndex_df160_1 rfl rfl ?_
  refine jk_getsV (q := 5) hv2 jw_1273 dJ0_checkIndex_df160_2 rfl ?_
  rcases hv1 with rfl | ⟨a, rfl⟩
  · refine jk_cS3p (q := 8) (c_J3_checkIndexN (a := 0) hi hl) jm_J3_checkIndex_8e157 jw_1490 rfl rfl rfl dJ0_checkIndex_df160_5 rfl ?_
    refine jk_pop (q := 9) dJ0_checkIndex_df160_8 rfl rfl ?_
    exact jk_ret rfl dJ0_checkIndex_df160_9 jk_qr
  · refine jk_cS3p (q := 8) (c_J3_checkIndexR hi hl) jm_J3_checkIndex_8e157 jw_1490 rfl rfl rfl dJ0_checkIndex_df160_5 rfl ?_
    refine jk_pop (q := 9) dJ0_checkIndex_df160_8 rfl rfl ?_
    exact jk_ret rfl dJ0_checkIndex_df160_9 jk_qr
theorem zs_ln : ∀ i, i < 20 → zs_len i ≤ 8 := by decide
theorem zs_cb : ∀ i, i < 20 → ∀ j, j < 8 → 0 ≤ zs_ch i j ∧ zs_ch i j < 128 := by decide
theorem c_J0_coder_7d493 {G : jk_G} {n : Nat} {t : jk_T} {σ : jk_I} {ρ : jk_P} {i : Nat} (hz : zz_ok G) (hi : i < 20) : jk_K G yJ0_coder_7d493 mJ0_coder_7d493 0 0 [.ref (21 + i)] n t σ ρ (jk_q (some (jI 0)) n t σ ρ) jk_no := by
  refine jk_entryB (ls := [some (.ref (21 + i))]) jm_J0_coder_7d493.1 rfl rfl rfl ?_
  refine jk_getsI (q := 3) (x := 1) (zz_cs hz) jw_1295 dJ0_coder_7d493_0 rfl ?_
  refine jk_ifN_eq (q := 6) (by decide) (by decide) dJ0_coder_7d493_3 rfl rfl ?_
  refine jk_aload_n (q := 7) dJ0_coder_7d493_6 rfl rfl ?_
  refine jk_oget (q := 10) (v := jI 0) (zz_sc hz hi) jw_1413 dJ0_coder_7d493_7 rfl ?_
  refine jk_goto (q := 14) dJ0_coder_7d493_10 rfl ?_
  exact jk_bret rfl (by first | assumption | decide | omega | exact jB_01 _ | exact jB_in _ | exact ⟨by omega, by omega⟩) dJ0_coder_7d493_14 (by first | exact jk_qr | (refine jk_qT ?_; grind) | (refine jk_qF ?_; grind) | (refine jk_qI ?_; grind))
theorem c_J0_isLatin1_aae02 {G : jk_G} {n : Nat} {t : jk_T} {σ : jk_I} {ρ : jk_P} {i : Nat} (hz : zz_ok G) (hi : i < 20) : jk_K G yJ0_isLatin1_aae02 mJ0_isLatin1_aae02 0 0 [.ref (21 + i)] n t σ ρ (jk_q (some (jI (jB true))) n t σ ρ) jk_no := by
  refine jk_entryB (ls := [some (.ref (21 + i))]) jm_J0_isLatin1_aae02.1 rfl rfl rfl ?_
  refine jk_getsI (q := 3) (x := 1) (zz_cs hz) jw_1295 dJ0_isLatin1_aae02_0 rfl ?_
  refine jk_ifN_eq (q := 6) (by decide) (by decide) dJ0_isLatin1_aae02_3 rfl rfl ?_
  refine jk_aload_n (q := 7) dJ0_isLatin1_aae02_6 rfl rfl ?_
  refine jk_oget (q := 10) (v := jI 0) (zz_sc hz hi) jw_1413 dJ0_isLatin1_aae02_7 rfl ?_
  refine jk_ifN_ne (q := 13) (by decide) (by decide) dJ0_isLatin1_aae02_10 rfl rfl ?_
  refine jk_iconst (q := 14) dJ0_isLatin1_aae02_13 rfl ?_
  refine jk_goto (q := 18) dJ0_isLatin1_aae02_14 rfl ?_
  exact jk_zret rfl (by first | assumption | decide | omega | exact jB_01 _ | exact jB_in _ | exact ⟨by omega, by omega⟩) dJ0_isLatin1_aae02_18 (by first | exact jk_qr | (refine jk_qT ?_; grind) | (refine jk_qF ?_; grind) | (refine jk_qI ?_; grind))
theorem jk_shr0 {x : Int} : Int32.ofInt x >>> (Int32.ofInt 0 &&& 31) = Int32.ofInt x := by
  rw [← Int32.toInt_inj, show (Int32.ofInt 0 &&& 31) = 0 by decide]
  show (BitVec.sshiftRight' (Int32.ofInt x).toBitVec ((0 : Int32).toBitVec.smod 32)).toInt = _
  rw [show (0 : Int32).toBitVec.smod 32 = 0#32 by decide]
  show (BitVec.sshiftRight (Int32.ofInt x).toBitVec 0).toInt = _
  rw [BitVec.sshiftRight_zero]
  rfl
theorem c_J0_length {G : jk_G} {n : Nat} {t : jk_T} {σ : jk_I} {ρ : jk_P} {i : Nat} (hz : zz_ok G) (hi : i < 20) : jk_K G yJ0_length_8abf5 mJ0_length_8abf5 0 0 [.ref (21 + i)] n t σ ρ (jk_q (some (jI ((zs_len i : Nat) : Int))) n t σ ρ) jk_no := by
  refine jk_entryB (ls := [some (.ref (21 + i))]) jm_J0_length_8abf5.1 rfl rfl rfl ?_
  refine jk_aload_n (q := 1) dJ0_length_8abf5_0 rfl rfl ?_
  refine jk_oget (q := 4) (v := .ref (41 + i)) (zz_sv hz hi) jw_1412 dJ0_length_8abf5_1 rfl ?_
  refine jk_tlen (q := 5) (zz_st hz hi) dJ0_length_8abf5_4 rfl ?_
  refine jk_aload_n (q := 6) dJ0_length_8abf5_5 rfl rfl ?_
  refine jk_callVO (q := 9) (mc := 0) (ms := 0) (As := []) (zz_sO hz hi) (c_J0_coder_7d493 hz hi) jm_J0_coder_7d493 jw_1291 rfl (by decide) (Nat.le_of_ble_eq_true rfl) (Nat.zero_le _) (Nat.zero_le _) (fun x hx => by cases hx) dJ0_length_8abf5_6 rfl (fun v' n' t' σ' ρ' hq => ?_) (fun _ _ _ _ _ h => h.elim)
  obtain ⟨rfl, rfl, rfl, rfl, rfl⟩ := hq
  simp only [Option.toList_some, List.cons_append, List.nil_append, Nat.sub_zero]
  refine jk_pure (q := 10) (st2 := [jI ((zs_len i : Nat) : Int)]) (fun p e R s m args below meth c H locs cells slots ls' Qf hx hb kk => lv_ishr hx hb dJ0_length_8abf5_9 (by rw [jk_shr0]; exact kk)) ?_
  exact jk_iret rfl dJ0_length_8abf5_10 jk_qr
theorem c_J1_charAt_3b067 {G : jk_G} {n : Nat} {t : jk_T} {σ : jk_I} {ρ : jk_P} {i : Nat} {j : Int} (hz : zz_ok G) (hi : i < 20) (hv : zv_ok G) (hj : 0 ≤ j ∧ j < (zs_len i : Nat)) : jk_K G yJ1_charAt_3b067 mJ1_charAt_3b067 0 0 [.ref (41 + i), jI j] n t σ ρ (jk_q (some (jI (zs_ch i j.toNat))) n t σ ρ) jk_no := by
  have hl8 := zs_ln i hi
  have hc := zs_cb i hi j.toNat (by omega)
  refine jk_entryB (ls := [some (.ref (41 + i)), some (jI j)]) jm_J1_charAt_3b067.1 rfl rfl rfl ?_
  refine jk_iload_n (q := 1) dJ1_charAt_3b067_0 rfl rfl ?_
  refine jk_aload_n (q := 2) dJ1_charAt_3b067_1 rfl rfl ?_
  refine jk_tlen (q := 3) (zz_st hz hi) dJ1_charAt_3b067_2 rfl ?_
  refine jk_cS2v (q := 6) (c_J0_checkIndex hv hj (by omega)) jm_J0_checkIndex_df160 jw_1541 rfl rfl rfl dJ1_charAt_3b067_3 rfl ?_
  refine jk_aload_n (q := 7) dJ1_charAt_3b067_6 rfl rfl ?_
  refine jk_iload_n (q := 8) dJ1_charAt_3b067_7 rfl rfl ?_
  refine jk_tabb (q := 9) (zz_st hz hi) (by first | decide | omega) (by first | assumption | decide | omega | exact jB_01 _ | exact jB_in _ | exact ⟨by omega, by omega⟩) dJ1_charAt_3b067_8 rfl ?_
  refine jk_sipush (q := 12) (y := 255) dJ1_charAt_3b067_9 rfl (by decide) ?_
  refine jk_iand255 (q := 13) dJ1_charAt_3b067_12 rfl (by first | assumption | decide | omega | exact jB_01 _ | exact jB_in _ | exact ⟨by omega, by omega⟩) ?_
  refine jk_i2c (q := 14) (by first | assumption | decide | omega | exact jB_01 _ | exact jB_in _ | exact ⟨by omega, by omega⟩) dJ1_charAt_3b067_13 rfl ?_
  exact jk_cret rfl (by first | assumption | decide | omega | exact jB_01 _ | exact jB_in _ | exact ⟨by omega, by omega⟩) dJ1_charAt_3b067_14 (by rw [show zs_ch i j.toNat % 256 = zs_ch i j.toNat by omega]; exact jk_qr)
theorem c_J0_charAt {G : jk_G} {n : Nat} {t : jk_T} {σ : jk_I} {ρ : jk_P} {i : Nat} {j : Int} (hz : zz_ok G) (hi : i < 20) (hv : zv_ok G) (hj : 0 ≤ j ∧ j < (zs_len i : Nat)) : jk_K G yJ0_charAt_5068e mJ0_charAt_5068e 0 0 [.ref (21 + i), jI j] n t σ ρ (jk_q (some (jI (zs_ch i j.toNat))) n t σ ρ) jk_no := by
  have hl8 := zs_ln i hi
  have hc := zs_cb i hi j.toNat (by omega)
  refine jk_entryB (ls := [some (.ref (21 + i)), some (jI j)]) jm_J0_charAt_5068e.1 rfl rfl rfl ?_
  refine jk_aload_n (q := 1) dJ0_charAt_5068e_0 rfl rfl ?_
  refine jk_callVO (q := 4) (mc := 0) (ms := 0) (As := []) (zz_sO hz hi) (c_J0_isLatin1_aae02 hz hi) jm_J0_isLatin1_aae02 jw_1534 rfl (by decide) (Nat.le_of_ble_eq_true rfl) (Nat.zero_le _) (Nat.zero_le _) (fun x hx => by cases hx) dJ0_charAt_5068e_1 rfl (fun v' n' t' σ' ρ' hq => ?_) (fun _ _ _ _ _ h => h.elim)
  obtain ⟨rfl, rfl, rfl, rfl, rfl⟩ := hq
  simp only [Option.toList_some, List.cons_append, List.nil_append, Nat.sub_zero]
  refine jk_ifB_eq (q := 16) (q2 := 7) dJ0_charAt_5068e_4 rfl rfl (fun z1 => ?_) (fun z1 => ?_)
  · exact absurd ‹_› (by decide)
  · refine jk_aload_n (q := 8) dJ0_charAt_5068e_7 rfl rfl ?_
    refine jk_oget (q := 11) (v := .ref (41 + i)) (zz_sv hz hi) jw_1412 dJ0_charAt_5068e_8 rfl ?_
    refine jk_iload_n (q := 12) dJ0_charAt_5068e_11 rfl rfl ?_
    refine jk_cS2p (q := 15) (c_J1_charAt_3b067 hz hi hv hj) jm_J1_charAt_3b067 jw_1538 rfl rfl rfl dJ0_charAt_5068e_12 rfl ?_
    exact jk_cret rfl (by first | assumption | decide | omega | exact jB_01 _ | exact jB_in _ | exact ⟨by omega, by omega⟩) dJ0_charAt_5068e_15 (by first | exact jk_qr | (refine jk_qT ?_; grind) | (refine jk_qF ?_; grind) | (refine jk_qI ?_; grind))
def zm_d (c : Int) : Nat := if c = 100 then 1 else if c = 110 then 2 else if c = 118 then 5 else 0
theorem c_X7_mostDigits {G : jk_G} {n : Nat} {t : jk_T} {σ : jk_I} {ρ : jk_P} {c : Int} (hc : jk_in c) : jk_K G yX7_mostDigits mX7_mostDigits 0 0 [jI c] n t σ ρ (jk_q (some (jI (zm_d c : Nat))) n t σ ρ) jk_no := by
  refine jk_entryB (ls := [some (jI c)]) jm_X7_mostDigits.1 rfl rfl rfl ?_
  refine jk_iload_n (q := 1) dX7_mostDigits_0 rfl rfl ?_
  refine jk_caseC 100 (fun z1 => ?_) (fun z1 => ?_)
  · refine jk_lsw (q := 36) (by decide) dX7_mostDigits_1 (by decide) rfl rfl ?_
    refine jk_iconst (q := 37) dX7_mostDigits_36 rfl ?_
    exact jk_iret rfl dX7_mostDigits_37 (by (try subst c); exact jk_qr)
  refine jk_caseC 110 (fun z2 => ?_) (fun z2 => ?_)
  · refine jk_lsw (q := 38) (by decide) dX7_mostDigits_1 (by decide) rfl rfl ?_
    refine jk_iconst (q := 39) dX7_mostDigits_38 rfl ?_
    exact jk_iret rfl dX7_mostDigits_39 (by (try subst c); exact jk_qr)
  refine jk_caseC 118 (fun z3 => ?_) (fun z3 => ?_)
  · refine jk_lsw (q := 40) (by decide) dX7_mostDigits_1 (by decide) rfl rfl ?_
    refine jk_iconst (q := 41) dX7_mostDigits_40 rfl ?_
    exact jk_iret rfl dX7_mostDigits_41 (by (try subst c); exact jk_qr)
  refine jk_lsw (q := 42) (off := 41) (by first | assumption | decide | omega | exact jB_01 _ | exact jB_in _ | exact ⟨by omega, by omega⟩) dX7_mostDigits_1 (by decide) (by rw [Op.lookupswitch.offset_cons, if_neg (by omega)]; rw [Op.lookupswitch.offset_cons, if_neg (by omega)]; rw [Op.lookupswitch.offset_cons, if_neg (by omega)]; rfl) rfl ?_
  refine jk_iconst (q := 43) dX7_mostDigits_42 rfl ?_
  exact jk_iret rfl dX7_mostDigits_43 (by rw [show zm_d c = 0 from (if_neg (by omega)).trans ((if_neg (by omega)).trans (if_neg (by omega)))]; exact jk_qr)
end S0
