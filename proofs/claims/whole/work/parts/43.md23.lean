section MD23
theorem md_n3_ok {Bf : Int → Int} {ty a b c : Int} (hB : ∀ j, 0 ≤ j ∧ j < 60 → 0 ≤ Bf j ∧ Bf j < 65536) (hty : 0 ≤ ty ∧ ty ≤ 60) (ha : 0 ≤ a) (hb : 0 ≤ b) (hc : 0 ≤ c) {s : md_PS} (hs : md_sok ty s.1) : md_sok ty (md_n3 Bf ty a b c s).1 := md_nd_ok hB hty hc (md_nd_ok hB hty hb (md_nd_ok hB hty ha hs))
theorem md_da_ok {Bf : Int → Int} {ty c : Int} (hB : ∀ j, 0 ≤ j ∧ j < 60 → 0 ≤ Bf j ∧ Bf j < 65536) (hty : 0 ≤ ty ∧ ty ≤ 60) (hc : 0 ≤ c) {most : Nat} {s : md_PS} (hs : md_sok ty s.1) : md_sok ty (md_da Bf ty c most s).1.1 := md_di_ok hB hty (md_nd_ok hB hty hc hs)
theorem md_va_ok {Bf : Int → Int} {ty c : Int} (hB : ∀ j, 0 ≤ j ∧ j < 60 → 0 ≤ Bf j ∧ Bf j < 65536) (hty : 0 ≤ ty ∧ ty ≤ 60) (hc : 0 ≤ c) {s : md_PS} (hs : md_sok ty s.1) : md_sok ty (md_va Bf ty c s).1.1 := md_di_ok hB hty (s := ((md_nd Bf ty c s).1 + jB (md_lo Bf ty c s), (md_nd Bf ty c s).2)) (md_lo_ok hB hty hc hs)
abbrev md_TR : Type := md_PS × (Int → Int)
def md_pP (Bf : Int → Int) (ty k : Int) (s : md_PS) (P : Int → Int) : md_TR :=
  if md_he Bf ty s.1 = 114 then ((md_da Bf ty 32 1 (md_n3 Bf ty 105 108 101 (md_n3 Bf ty 114 111 102 s))).1, jk_set (jk_set P k 111) (k + 1) (md_da Bf ty 32 1 (md_n3 Bf ty 105 108 101 (md_n3 Bf ty 114 111 102 s))).2)
  else (md_nd Bf ty 116 (md_n3 Bf ty 111 105 110 s), P)
def md_pF (Bf : Int → Int) (ty k : Int) (s : md_PS) (P : Int → Int) : md_TR :=
  if md_he Bf ty s.1 = 114 then ((md_da Bf ty 32 1 (md_n3 Bf ty 114 101 101 s)).1, jk_set (jk_set P k 117) (k + 1) (md_da Bf ty 32 1 (md_n3 Bf ty 114 101 101 s)).2)
  else ((md_va Bf ty 32 (md_da Bf ty 32 1 (md_nd Bf ty 120 (md_nd Bf ty 105 s))).1).1, jk_set (jk_set P (k + 1) (md_da Bf ty 32 1 (md_nd Bf ty 120 (md_nd Bf ty 105 s))).2) (k + 2) (md_va Bf ty 32 (md_da Bf ty 32 1 (md_nd Bf ty 120 (md_nd Bf ty 105 s))).1).2)
def md_pSt (Bf : Int → Int) (ty k : Int) (s : md_PS) (P : Int → Int) : md_TR :=
  if md_he Bf ty s.1 = 104 then ((md_da Bf ty 32 2 (md_nd Bf ty 101 (md_n3 Bf ty 104 97 114 s))).1, jk_set (jk_set P k 104) (k + 1) (md_da Bf ty 32 2 (md_nd Bf ty 101 (md_n3 Bf ty 104 97 114 s))).2)
  else
    let a := md_da Bf ty 32 1 (md_n3 Bf ty 105 111 110 (md_n3 Bf ty 116 97 116 s))
    let b := md_da Bf ty 32 2 a.1
    let c := md_va Bf ty 58 b.1
    (c.1, jk_set (jk_set (jk_set P (k + 1) a.2) (k + 2) b.2) (k + 3) c.2)
def md_pL (Bf : Int → Int) (ty k : Int) (s : md_PS) (P : Int → Int) : md_TR :=
  let a := md_da Bf ty 32 1 (md_n3 Bf ty 105 110 101 s)
  let b := md_di Bf ty 1 a.1
  let c := md_va Bf ty 32 b.1
  let d := md_da Bf ty 47 2 c.1
  (d.1, jk_set (jk_set (jk_set (jk_set P (k + 1) a.2) (k + 2) b.2) (k + 3) c.2) (k + 4) d.2)
def md_pM (Bf : Int → Int) (ty k x y : Int) (s : md_PS) (P : Int → Int) : md_TR :=
  let a := md_da Bf ty 32 2 (md_nd Bf ty 101 (md_n3 Bf ty 108 117 100 (md_nd Bf ty y (md_nd Bf ty x s))))
  (a.1, jk_set P (k + 1) a.2)
def md_pB (Bf : Int → Int) (ty k : Int) (s : md_PS) (P : Int → Int) : md_TR :=
  let a := md_da Bf ty 32 2 (md_n3 Bf ty 97 99 107 s)
  let b := md_va Bf ty 32 a.1
  (b.1, jk_set (jk_set P (k + 1) a.2) (k + 2) b.2)
def md_pW (Bf : Int → Int) (ty k : Int) (s : md_PS) (P : Int → Int) : md_TR :=
  let a := md_va Bf ty 32 (md_nd Bf ty 114 (md_n3 Bf ty 97 116 101 s))
  (a.1, jk_set P (k + 1) a.2)
/-- a command read at the place s.1 -/
def md_cmd (Bf : Int → Int) (ty k : Int) (s : md_PS) (P : Int → Int) : md_TR :=
  let c := md_he Bf ty s.1
  let s1 : md_PS := (s.1 + 1, s.2)
  let P1 := jk_set P k c
  if c = 98 then md_pB Bf ty k s1 P1 else
  if c = 101 then md_pM Bf ty k 120 99 s1 P1 else
  if c = 102 then md_pF Bf ty k s1 P1 else
  if c = 105 then md_pM Bf ty k 110 99 s1 P1 else
  if c = 108 then md_pL Bf ty k s1 P1 else
  if c = 112 then md_pP Bf ty k s1 P1 else
  if c = 114 then (md_nd Bf ty 116 (md_n3 Bf ty 101 115 101 s1), P1) else
  if c = 115 then md_pSt Bf ty k s1 P1 else
  if c = 119 then md_pW Bf ty k s1 P1 else
  ((s.1 + 1 - 1, true), P1)
theorem c_X13_parsesP {G : jk_G} {n : Nat} {t : jk_T} {σ : jk_I} {ρ : jk_P} {m : Nat} {O Bf P : Int → Int} {ty sp : Int} {w : Bool} {k : Int} (hm : md_at t ρ m) (hb : σ (m + 10) = Bf) (hB : ∀ j, 0 ≤ j ∧ j < 60 → 0 ≤ Bf j ∧ Bf j < 65536) (hty : O 7 = ty) (hty2 : 0 ≤ ty ∧ ty ≤ 60) (hs : md_sok ty sp) (hk : 0 ≤ k ∧ k + 4 < 300) : jk_K G yX13_parsesP mX13_parsesP 0 0 [.ref m, jI k] n t (md_pS σ m O sp w P) ρ (jk_q none n t (md_pS σ m O (md_pP Bf ty k (sp, w) P).1.1 (md_pP Bf ty k (sp, w) P).1.2 (md_pP Bf ty k (sp, w) P).2) ρ) jk_no := by
  refine jk_entryB (ls := [some (.ref m), some (jI k)]) jm_X13_parsesP.1 rfl rfl rfl ?_
  obtain ⟨hs1, hs2⟩ := id hs
  have hhe := md_he_bd hB hty2 hs1
  refine jk_aload_n (q := 1) dX13_parsesP_0 rfl rfl ?_
  refine jk_cV0p (q := 4) (c_X13_here hm hb hB hty hty2 hs) jm_X13_here jw_2384 rfl (by first | exact hm.1 | exact hm.2.1 _ _ rfl | assumption) rfl rfl rfl dX13_parsesP_1 rfl ?_
  refine jk_bipush (q := 6) (y := 114) dX13_parsesP_4 rfl (by decide) ?_
  refine jk_icmp_ne (q := 55) (q2 := 9) dX13_parsesP_6 rfl rfl (by first | decide | omega | exact jB_01 _) (by first | decide | omega | exact jB_01 _) (fun h1 => ?_) (fun h1 => ?_)
  · refine jk_aload_n (q := 56) dX13_parsesP_55 rfl rfl ?_
    refine jk_bipush (q := 58) (y := 111) dX13_parsesP_56 rfl (by decide) ?_
    refine jk_bipush (q := 60) (y := 105) dX13_parsesP_58 rfl (by decide) ?_
    refine jk_bipush (q := 62) (y := 110) dX13_parsesP_60 rfl (by decide) ?_
    refine jk_cV3v (q := 65) (c_X13_needsThree hm hb hB hty hty2 hs (by decide) (by decide) (by decide)) jm_X13_needsThree jw_2392 rfl (by first | exact hm.1 | exact hm.2.1 _ _ rfl | assumption) rfl rfl rfl dX13_parsesP_62 rfl ?_
    refine jk_aload_n (q := 66) dX13_parsesP_65 rfl rfl ?_
    refine jk_bipush (q := 68) (y := 116) dX13_parsesP_66 rfl (by decide) ?_
    refine jk_cV1v (q := 71) (c_X13_needs hm hb hB hty hty2 (md_n3_ok hB hty2 (by decide) (by decide) (by decide) (s := (sp, w)) hs) (by decide)) jm_X13_needs jw_2396 rfl (by first | exact hm.1 | exact hm.2.1 _ _ rfl | assumption) rfl rfl rfl dX13_parsesP_68 rfl ?_
    exact jk_ret rfl dX13_parsesP_71 (by unfold md_pP; first | (rw [if_pos (by assumption)]; exact jk_qr) | (rw [if_neg (by assumption)]; exact jk_qr))
  · refine jk_aload_n (q := 10) dX13_parsesP_9 rfl rfl ?_
    refine jk_getA (q := 13) (k := 13) 22 22 rfl (by first | exact hm.1 | exact hm.2.1 _ _ rfl | assumption) (by first | exact hm.2.2 _ _ rfl | assumption) rfl rfl jw_1870 dX13_parsesP_10 rfl ?_
    refine jk_iload_n (q := 14) dX13_parsesP_13 rfl rfl ?_
    refine jk_bipush (q := 16) (y := 111) dX13_parsesP_14 rfl (by decide) ?_
    refine jk_iastR (q := 17) (by first | exact hm.1 | exact hm.2.1 _ _ rfl | assumption) (by first | exact jk_row_same _ _ _ | exact (md_pS_m _ _ _ _ _ _) | exact (md_pS_p _ _ _ _ _ _) | exact ((md_pS_ne _ _ _ _ _ _ (by omega) (by omega)).trans hb) | (rewrite [jk_row_ne _ _ (by omega)]; first | exact jk_row_same _ _ _ | exact (md_pS_m _ _ _ _ _ _) | exact (md_pS_p _ _ _ _ _ _) | exact ((md_pS_ne _ _ _ _ _ _ (by omega) (by omega)).trans hb) | (rewrite [jk_row_ne _ _ (by omega)]; first | exact jk_row_same _ _ _ | exact (md_pS_m _ _ _ _ _ _) | exact (md_pS_p _ _ _ _ _ _) | exact ((md_pS_ne _ _ _ _ _ _ (by omega) (by omega)).trans hb) | (rewrite [jk_row_ne _ _ (by omega)]; first | exact jk_row_same _ _ _ | exact (md_pS_m _ _ _ _ _ _) | exact (md_pS_p _ _ _ _ _ _) | exact ((md_pS_ne _ _ _ _ _ _ (by omega) (by omega)).trans hb) | (rewrite [jk_row_ne _ _ (by omega)]; first | exact (md_pS_m _ _ _ _ _ _) | exact (md_pS_p _ _ _ _ _ _) | exact ((md_pS_ne _ _ _ _ _ _ (by omega) (by omega)).trans hb) | rfl))))) (by first | decide | omega | exact jB_01 _) dX13_parsesP_16 rfl ?_
    rw [md_pS_P]
    refine jk_aload_n (q := 18) dX13_parsesP_17 rfl rfl ?_
    refine jk_bipush (q := 20) (y := 114) dX13_parsesP_18 rfl (by decide) ?_
    refine jk_bipush (q := 22) (y := 111) dX13_parsesP_20 rfl (by decide) ?_
    refine jk_bipush (q := 24) (y := 102) dX13_parsesP_22 rfl (by decide) ?_
    refine jk_cV3v (q := 27) (c_X13_needsThree hm hb hB hty hty2 hs (by decide) (by decide) (by decide)) jm_X13_needsThree jw_2392 rfl (by first | exact hm.1 | exact hm.2.1 _ _ rfl | assumption) rfl rfl rfl dX13_parsesP_24 rfl ?_
    refine jk_aload_n (q := 28) dX13_parsesP_27 rfl rfl ?_
    refine jk_bipush (q := 30) (y := 105) dX13_parsesP_28 rfl (by decide) ?_
    refine jk_bipush (q := 32) (y := 108) dX13_parsesP_30 rfl (by decide) ?_
    refine jk_bipush (q := 34) (y := 101) dX13_parsesP_32 rfl (by decide) ?_
    refine jk_cV3v (q := 37) (c_X13_needsThree hm hb hB hty hty2 (md_n3_ok hB hty2 (by decide) (by decide) (by decide) (s := (sp, w)) hs) (by decide) (by decide) (by decide)) jm_X13_needsThree jw_2392 rfl (by first | exact hm.1 | exact hm.2.1 _ _ rfl | assumption) rfl rfl rfl dX13_parsesP_34 rfl ?_
    refine jk_aload_n (q := 38) dX13_parsesP_37 rfl rfl ?_
    refine jk_getA (q := 41) (k := 13) 22 22 rfl (by first | exact hm.1 | exact hm.2.1 _ _ rfl | assumption) (by first | exact hm.2.2 _ _ rfl | assumption) rfl rfl jw_1870 dX13_parsesP_38 rfl ?_
    refine jk_iload_n (q := 42) dX13_parsesP_41 rfl rfl ?_
    refine jk_iconst (q := 43) dX13_parsesP_42 rfl ?_
    refine jk_iadd (q := 44) dX13_parsesP_43 rfl ?_
    refine jk_aload_n (q := 45) dX13_parsesP_44 rfl rfl ?_
    refine jk_bipush (q := 47) (y := 32) dX13_parsesP_45 rfl (by decide) ?_
    refine jk_iconst (q := 48) dX13_parsesP_47 rfl ?_
    refine jk_cV2p (q := 51) (c_X13_digitsAfter (most := 1) hm hb hB hty hty2 (md_n3_ok hB hty2 (by decide) (by decide) (by decide) (s := (md_n3 Bf ty 114 111 102 (sp, w))) (md_n3_ok hB hty2 (by decide) (by decide) (by decide) (s := (sp, w)) hs)) (by decide) (by decide)) jm_X13_digitsAfter jw_2400 rfl (by first | exact hm.1 | exact hm.2.1 _ _ rfl | assumption) rfl rfl rfl dX13_parsesP_48 rfl ?_
    refine jk_iastR (q := 52) (by first | exact hm.1 | exact hm.2.1 _ _ rfl | assumption) (by first | exact jk_row_same _ _ _ | exact (md_pS_m _ _ _ _ _ _) | exact (md_pS_p _ _ _ _ _ _) | exact ((md_pS_ne _ _ _ _ _ _ (by omega) (by omega)).trans hb) | (rewrite [jk_row_ne _ _ (by omega)]; first | exact jk_row_same _ _ _ | exact (md_pS_m _ _ _ _ _ _) | exact (md_pS_p _ _ _ _ _ _) | exact ((md_pS_ne _ _ _ _ _ _ (by omega) (by omega)).trans hb) | (rewrite [jk_row_ne _ _ (by omega)]; first | exact jk_row_same _ _ _ | exact (md_pS_m _ _ _ _ _ _) | exact (md_pS_p _ _ _ _ _ _) | exact ((md_pS_ne _ _ _ _ _ _ (by omega) (by omega)).trans hb) | (rewrite [jk_row_ne _ _ (by omega)]; first | exact jk_row_same _ _ _ | exact (md_pS_m _ _ _ _ _ _) | exact (md_pS_p _ _ _ _ _ _) | exact ((md_pS_ne _ _ _ _ _ _ (by omega) (by omega)).trans hb) | (rewrite [jk_row_ne _ _ (by omega)]; first | exact (md_pS_m _ _ _ _ _ _) | exact (md_pS_p _ _ _ _ _ _) | exact ((md_pS_ne _ _ _ _ _ _ (by omega) (by omega)).trans hb) | rfl))))) (by first | decide | omega | exact jB_01 _) dX13_parsesP_51 rfl ?_
    rw [md_pS_P]
    refine jk_goto (q := 71) dX13_parsesP_52 rfl ?_
    exact jk_ret rfl dX13_parsesP_71 (by unfold md_pP; first | (rw [if_pos (by assumption)]; exact jk_qr) | (rw [if_neg (by assumption)]; exact jk_qr))
theorem c_X13_parsesF {G : jk_G} {n : Nat} {t : jk_T} {σ : jk_I} {ρ : jk_P} {m : Nat} {O Bf P : Int → Int} {ty sp : Int} {w : Bool} {k : Int} (hm : md_at t ρ m) (hb : σ (m + 10) = Bf) (hB : ∀ j, 0 ≤ j ∧ j < 60 → 0 ≤ Bf j ∧ Bf j < 65536) (hty : O 7 = ty) (hty2 : 0 ≤ ty ∧ ty ≤ 60) (hs : md_sok ty sp) (hk : 0 ≤ k ∧ k + 4 < 300) : jk_K G yX13_parsesF mX13_parsesF 0 0 [.ref m, jI k] n t (md_pS σ m O sp w P) ρ (jk_q none n t (md_pS σ m O (md_pF Bf ty k (sp, w) P).1.1 (md_pF Bf ty k (sp, w) P).1.2 (md_pF Bf ty k (sp, w) P).2) ρ) jk_no := by
  refine jk_entryB (ls := [some (.ref m), some (jI k)]) jm_X13_parsesF.1 rfl rfl rfl ?_
  obtain ⟨hs1, hs2⟩ := id hs
  have hhe := md_he_bd hB hty2 hs1
  refine jk_aload_n (q := 1) dX13_parsesF_0 rfl rfl ?_
  refine jk_cV0p (q := 4) (c_X13_here hm hb hB hty hty2 hs) jm_X13_here jw_2384 rfl (by first | exact hm.1 | exact hm.2.1 _ _ rfl | assumption) rfl rfl rfl dX13_parsesF_1 rfl ?_
  refine jk_bipush (q := 6) (y := 114) dX13_parsesF_4 rfl (by decide) ?_
  refine jk_icmp_ne (q := 45) (q2 := 9) dX13_parsesF_6 rfl rfl (by first | decide | omega | exact jB_01 _) (by first | decide | omega | exact jB_01 _) (fun h1 => ?_) (fun h1 => ?_)
  · refine jk_aload_n (q := 46) dX13_parsesF_45 rfl rfl ?_
    refine jk_bipush (q := 48) (y := 105) dX13_parsesF_46 rfl (by decide) ?_
    refine jk_cV1v (q := 51) (c_X13_needs hm hb hB hty hty2 hs (by decide)) jm_X13_needs jw_2396 rfl (by first | exact hm.1 | exact hm.2.1 _ _ rfl | assumption) rfl rfl rfl dX13_parsesF_48 rfl ?_
    refine jk_aload_n (q := 52) dX13_parsesF_51 rfl rfl ?_
    refine jk_bipush (q := 54) (y := 120) dX13_parsesF_52 rfl (by decide) ?_
    refine jk_cV1v (q := 57) (c_X13_needs hm hb hB hty hty2 (md_nd_ok hB hty2 (by decide) (s := (sp, w)) hs) (by decide)) jm_X13_needs jw_2396 rfl (by first | exact hm.1 | exact hm.2.1 _ _ rfl | assumption) rfl rfl rfl dX13_parsesF_54 rfl ?_
    refine jk_aload_n (q := 58) dX13_parsesF_57 rfl rfl ?_
    refine jk_getA (q := 61) (k := 13) 22 22 rfl (by first | exact hm.1 | exact hm.2.1 _ _ rfl | assumption) (by first | exact hm.2.2 _ _ rfl | assumption) rfl rfl jw_1870 dX13_parsesF_58 rfl ?_
    refine jk_iload_n (q := 62) dX13_parsesF_61 rfl rfl ?_
    refine jk_iconst (q := 63) dX13_parsesF_62 rfl ?_
    refine jk_iadd (q := 64) dX13_parsesF_63 rfl ?_
    refine jk_aload_n (q := 65) dX13_parsesF_64 rfl rfl ?_
    refine jk_bipush (q := 67) (y := 32) dX13_parsesF_65 rfl (by decide) ?_
    refine jk_iconst (q := 68) dX13_parsesF_67 rfl ?_
    refine jk_cV2p (q := 71) (c_X13_digitsAfter (most := 1) hm hb hB hty hty2 (md_nd_ok hB hty2 (by decide) (s := (md_nd Bf ty 105 (sp, w))) (md_nd_ok hB hty2 (by decide) (s := (sp, w)) hs)) (by decide) (by decide)) jm_X13_digitsAfter jw_2400 rfl (by first | exact hm.1 | exact hm.2.1 _ _ rfl | assumption) rfl rfl rfl dX13_parsesF_68 rfl ?_
    refine jk_iastR (q := 72) (by first | exact hm.1 | exact hm.2.1 _ _ rfl | assumption) (by first | exact jk_row_same _ _ _ | exact (md_pS_m _ _ _ _ _ _) | exact (md_pS_p _ _ _ _ _ _) | exact ((md_pS_ne _ _ _ _ _ _ (by omega) (by omega)).trans hb) | (rewrite [jk_row_ne _ _ (by omega)]; first | exact jk_row_same _ _ _ | exact (md_pS_m _ _ _ _ _ _) | exact (md_pS_p _ _ _ _ _ _) | exact ((md_pS_ne _ _ _ _ _ _ (by omega) (by omega)).trans hb) | (rewrite [jk_row_ne _ _ (by omega)]; first | exact jk_row_same _ _ _ | exact (md_pS_m _ _ _ _ _ _) | exact (md_pS_p _ _ _ _ _ _) | exact ((md_pS_ne _ _ _ _ _ _ (by omega) (by omega)).trans hb) | (rewrite [jk_row_ne _ _ (by omega)]; first | exact jk_row_same _ _ _ | exact (md_pS_m _ _ _ _ _ _) | exact (md_pS_p _ _ _ _ _ _) | exact ((md_pS_ne _ _ _ _ _ _ (by omega) (by omega)).trans hb) | (rewrite [jk_row_ne _ _ (by omega)]; first | exact (md_pS_m _ _ _ _ _ _) | exact (md_pS_p _ _ _ _ _ _) | exact ((md_pS_ne _ _ _ _ _ _ (by omega) (by omega)).trans hb) | rfl))))) (by first | decide | omega | exact jB_01 _) dX13_parsesF_71 rfl ?_
    rw [md_pS_P]
    refine jk_aload_n (q := 73) dX13_parsesF_72 rfl rfl ?_
    refine jk_getA (q := 76) (k := 13) 22 22 rfl (by first | exact hm.1 | exact hm.2.1 _ _ rfl | assumption) (by first | exact hm.2.2 _ _ rfl | assumption) rfl rfl jw_1870 dX13_parsesF_73 rfl ?_
    refine jk_iload_n (q := 77) dX13_parsesF_76 rfl rfl ?_
    refine jk_iconst (q := 78) dX13_parsesF_77 rfl ?_
    refine jk_iadd (q := 79) dX13_parsesF_78 rfl ?_
    refine jk_aload_n (q := 80) dX13_parsesF_79 rfl rfl ?_
    refine jk_bipush (q := 82) (y := 32) dX13_parsesF_80 rfl (by decide) ?_
    refine jk_cV1p (q := 85) (c_X13_valueAfter hm hb hB hty hty2 (md_da_ok hB hty2 (by decide) (c := 32) (most := 1) (s := (md_nd Bf ty 120 (md_nd Bf ty 105 (sp, w)))) (md_nd_ok hB hty2 (by decide) (s := (md_nd Bf ty 105 (sp, w))) (md_nd_ok hB hty2 (by decide) (s := (sp, w)) hs))) (by decide)) jm_X13_valueAfter jw_2412 rfl (by first | exact hm.1 | exact hm.2.1 _ _ rfl | assumption) rfl rfl rfl dX13_parsesF_82 rfl ?_
    refine jk_iastR (q := 86) (by first | exact hm.1 | exact hm.2.1 _ _ rfl | assumption) (by first | exact jk_row_same _ _ _ | exact (md_pS_m _ _ _ _ _ _) | exact (md_pS_p _ _ _ _ _ _) | exact ((md_pS_ne _ _ _ _ _ _ (by omega) (by omega)).trans hb) | (rewrite [jk_row_ne _ _ (by omega)]; first | exact jk_row_same _ _ _ | exact (md_pS_m _ _ _ _ _ _) | exact (md_pS_p _ _ _ _ _ _) | exact ((md_pS_ne _ _ _ _ _ _ (by omega) (by omega)).trans hb) | (rewrite [jk_row_ne _ _ (by omega)]; first | exact jk_row_same _ _ _ | exact (md_pS_m _ _ _ _ _ _) | exact (md_pS_p _ _ _ _ _ _) | exact ((md_pS_ne _ _ _ _ _ _ (by omega) (by omega)).trans hb) | (rewrite [jk_row_ne _ _ (by omega)]; first | exact jk_row_same _ _ _ | exact (md_pS_m _ _ _ _ _ _) | exact (md_pS_p _ _ _ _ _ _) | exact ((md_pS_ne _ _ _ _ _ _ (by omega) (by omega)).trans hb) | (rewrite [jk_row_ne _ _ (by omega)]; first | exact (md_pS_m _ _ _ _ _ _) | exact (md_pS_p _ _ _ _ _ _) | exact ((md_pS_ne _ _ _ _ _ _ (by omega) (by omega)).trans hb) | rfl))))) (by first | decide | omega | exact jB_01 _) dX13_parsesF_85 rfl ?_
    rw [md_pS_P]
    exact jk_ret rfl dX13_parsesF_86 (by unfold md_pF; first | (rw [if_pos (by assumption)]; exact jk_qr) | (rw [if_neg (by assumption)]; exact jk_qr))
  · refine jk_aload_n (q := 10) dX13_parsesF_9 rfl rfl ?_
    refine jk_getA (q := 13) (k := 13) 22 22 rfl (by first | exact hm.1 | exact hm.2.1 _ _ rfl | assumption) (by first | exact hm.2.2 _ _ rfl | assumption) rfl rfl jw_1870 dX13_parsesF_10 rfl ?_
    refine jk_iload_n (q := 14) dX13_parsesF_13 rfl rfl ?_
    refine jk_bipush (q := 16) (y := 117) dX13_parsesF_14 rfl (by decide) ?_
    refine jk_iastR (q := 17) (by first | exact hm.1 | exact hm.2.1 _ _ rfl | assumption) (by first | exact jk_row_same _ _ _ | exact (md_pS_m _ _ _ _ _ _) | exact (md_pS_p _ _ _ _ _ _) | exact ((md_pS_ne _ _ _ _ _ _ (by omega) (by omega)).trans hb) | (rewrite [jk_row_ne _ _ (by omega)]; first | exact jk_row_same _ _ _ | exact (md_pS_m _ _ _ _ _ _) | exact (md_pS_p _ _ _ _ _ _) | exact ((md_pS_ne _ _ _ _ _ _ (by omega) (by omega)).trans hb) | (rewrite [jk_row_ne _ _ (by omega)]; first | exact jk_row_same _ _ _ | exact (md_pS_m _ _ _ _ _ _) | exact (md_pS_p _ _ _ _ _ _) | exact ((md_pS_ne _ _ _ _ _ _ (by omega) (by omega)).trans hb) | (rewrite [jk_row_ne _ _ (by omega)]; first | exact jk_row_same _ _ _ | exact (md_pS_m _ _ _ _ _ _) | exact (md_pS_p _ _ _ _ _ _) | exact ((md_pS_ne _ _ _ _ _ _ (by omega) (by omega)).trans hb) | (rewrite [jk_row_ne _ _ (by omega)]; first | exact (md_pS_m _ _ _ _ _ _) | exact (md_pS_p _ _ _ _ _ _) | exact ((md_pS_ne _ _ _ _ _ _ (by omega) (by omega)).trans hb) | rfl))))) (by first | decide | omega | exact jB_01 _) dX13_parsesF_16 rfl ?_
    rw [md_pS_P]
    refine jk_aload_n (q := 18) dX13_parsesF_17 rfl rfl ?_
    refine jk_bipush (q := 20) (y := 114) dX13_parsesF_18 rfl (by decide) ?_
    refine jk_bipush (q := 22) (y := 101) dX13_parsesF_20 rfl (by decide) ?_
    refine jk_bipush (q := 24) (y := 101) dX13_parsesF_22 rfl (by decide) ?_
    refine jk_cV3v (q := 27) (c_X13_needsThree hm hb hB hty hty2 hs (by decide) (by decide) (by decide)) jm_X13_needsThree jw_2392 rfl (by first | exact hm.1 | exact hm.2.1 _ _ rfl | assumption) rfl rfl rfl dX13_parsesF_24 rfl ?_
    refine jk_aload_n (q := 28) dX13_parsesF_27 rfl rfl ?_
    refine jk_getA (q := 31) (k := 13) 22 22 rfl (by first | exact hm.1 | exact hm.2.1 _ _ rfl | assumption) (by first | exact hm.2.2 _ _ rfl | assumption) rfl rfl jw_1870 dX13_parsesF_28 rfl ?_
    refine jk_iload_n (q := 32) dX13_parsesF_31 rfl rfl ?_
    refine jk_iconst (q := 33) dX13_parsesF_32 rfl ?_
    refine jk_iadd (q := 34) dX13_parsesF_33 rfl ?_
    refine jk_aload_n (q := 35) dX13_parsesF_34 rfl rfl ?_
    refine jk_bipush (q := 37) (y := 32) dX13_parsesF_35 rfl (by decide) ?_
    refine jk_iconst (q := 38) dX13_parsesF_37 rfl ?_
    refine jk_cV2p (q := 41) (c_X13_digitsAfter (most := 1) hm hb hB hty hty2 (md_n3_ok hB hty2 (by decide) (by decide) (by decide) (s := (sp, w)) hs) (by decide) (by decide)) jm_X13_digitsAfter jw_2400 rfl (by first | exact hm.1 | exact hm.2.1 _ _ rfl | assumption) rfl rfl rfl dX13_parsesF_38 rfl ?_
    refine jk_iastR (q := 42) (by first | exact hm.1 | exact hm.2.1 _ _ rfl | assumption) (by first | exact jk_row_same _ _ _ | exact (md_pS_m _ _ _ _ _ _) | exact (md_pS_p _ _ _ _ _ _) | exact ((md_pS_ne _ _ _ _ _ _ (by omega) (by omega)).trans hb) | (rewrite [jk_row_ne _ _ (by omega)]; first | exact jk_row_same _ _ _ | exact (md_pS_m _ _ _ _ _ _) | exact (md_pS_p _ _ _ _ _ _) | exact ((md_pS_ne _ _ _ _ _ _ (by omega) (by omega)).trans hb) | (rewrite [jk_row_ne _ _ (by omega)]; first | exact jk_row_same _ _ _ | exact (md_pS_m _ _ _ _ _ _) | exact (md_pS_p _ _ _ _ _ _) | exact ((md_pS_ne _ _ _ _ _ _ (by omega) (by omega)).trans hb) | (rewrite [jk_row_ne _ _ (by omega)]; first | exact jk_row_same _ _ _ | exact (md_pS_m _ _ _ _ _ _) | exact (md_pS_p _ _ _ _ _ _) | exact ((md_pS_ne _ _ _ _ _ _ (by omega) (by omega)).trans hb) | (rewrite [jk_row_ne _ _ (by omega)]; first | exact (md_pS_m _ _ _ _ _ _) | exact (md_pS_p _ _ _ _ _ _) | exact ((md_pS_ne _ _ _ _ _ _ (by omega) (by omega)).trans hb) | rfl))))) (by first | decide | omega | exact jB_01 _) dX13_parsesF_41 rfl ?_
    rw [md_pS_P]
    refine jk_goto (q := 86) dX13_parsesF_42 rfl ?_
    exact jk_ret rfl dX13_parsesF_86 (by unfold md_pF; first | (rw [if_pos (by assumption)]; exact jk_qr) | (rw [if_neg (by assumption)]; exact jk_qr))
theorem c_X13_parsesS {G : jk_G} {n : Nat} {t : jk_T} {σ : jk_I} {ρ : jk_P} {m : Nat} {O Bf P : Int → Int} {ty sp : Int} {w : Bool} {k : Int} (hm : md_at t ρ m) (hb : σ (m + 10) = Bf) (hB : ∀ j, 0 ≤ j ∧ j < 60 → 0 ≤ Bf j ∧ Bf j < 65536) (hty : O 7 = ty) (hty2 : 0 ≤ ty ∧ ty ≤ 60) (hs : md_sok ty sp) (hk : 0 ≤ k ∧ k + 4 < 300) : jk_K G yX13_parsesS mX13_parsesS 0 0 [.ref m, jI k] n t (md_pS σ m O sp w P) ρ (jk_q none n t (md_pS σ m O (md_pSt Bf ty k (sp, w) P).1.1 (md_pSt Bf ty k (sp, w) P).1.2 (md_pSt Bf ty k (sp, w) P).2) ρ) jk_no := by
  refine jk_entryB (ls := [some (.ref m), some (jI k)]) jm_X13_parsesS.1 rfl rfl rfl ?_
  obtain ⟨hs1, hs2⟩ := id hs
  have hhe := md_he_bd hB hty2 hs1
  refine jk_aload_n (q := 1) dX13_parsesS_0 rfl rfl ?_
  refine jk_cV0p (q := 4) (c_X13_here hm hb hB hty hty2 hs) jm_X13_here jw_2384 rfl (by first | exact hm.1 | exact hm.2.1 _ _ rfl | assumption) rfl rfl rfl dX13_parsesS_1 rfl ?_
  refine jk_bipush (q := 6) (y := 104) dX13_parsesS_4 rfl (by decide) ?_
  refine jk_icmp_ne (q := 51) (q2 := 9) dX13_parsesS_6 rfl rfl (by first | decide | omega | exact jB_01 _) (by first | decide | omega | exact jB_01 _) (fun h1 => ?_) (fun h1 => ?_)
  · refine jk_aload_n (q := 52) dX13_parsesS_51 rfl rfl ?_
    refine jk_bipush (q := 54) (y := 116) dX13_parsesS_52 rfl (by decide) ?_
    refine jk_bipush (q := 56) (y := 97) dX13_parsesS_54 rfl (by decide) ?_
    refine jk_bipush (q := 58) (y := 116) dX13_parsesS_56 rfl (by decide) ?_
    refine jk_cV3v (q := 61) (c_X13_needsThree hm hb hB hty hty2 hs (by decide) (by decide) (by decide)) jm_X13_needsThree jw_2392 rfl (by first | exact hm.1 | exact hm.2.1 _ _ rfl | assumption) rfl rfl rfl dX13_parsesS_58 rfl ?_
    refine jk_aload_n (q := 62) dX13_parsesS_61 rfl rfl ?_
    refine jk_bipush (q := 64) (y := 105) dX13_parsesS_62 rfl (by decide) ?_
    refine jk_bipush (q := 66) (y := 111) dX13_parsesS_64 rfl (by decide) ?_
    refine jk_bipush (q := 68) (y := 110) dX13_parsesS_66 rfl (by decide) ?_
    refine jk_cV3v (q := 71) (c_X13_needsThree hm hb hB hty hty2 (md_n3_ok hB hty2 (by decide) (by decide) (by decide) (s := (sp, w)) hs) (by decide) (by decide) (by decide)) jm_X13_needsThree jw_2392 rfl (by first | exact hm.1 | exact hm.2.1 _ _ rfl | assumption) rfl rfl rfl dX13_parsesS_68 rfl ?_
    refine jk_aload_n (q := 72) dX13_parsesS_71 rfl rfl ?_
    refine jk_getA (q := 75) (k := 13) 22 22 rfl (by first | exact hm.1 | exact hm.2.1 _ _ rfl | assumption) (by first | exact hm.2.2 _ _ rfl | assumption) rfl rfl jw_1870 dX13_parsesS_72 rfl ?_
    refine jk_iload_n (q := 76) dX13_parsesS_75 rfl rfl ?_
    refine jk_iconst (q := 77) dX13_parsesS_76 rfl ?_
    refine jk_iadd (q := 78) dX13_parsesS_77 rfl ?_
    refine jk_aload_n (q := 79) dX13_parsesS_78 rfl rfl ?_
    refine jk_bipush (q := 81) (y := 32) dX13_parsesS_79 rfl (by decide) ?_
    refine jk_iconst (q := 82) dX13_parsesS_81 rfl ?_
    refine jk_cV2p (q := 85) (c_X13_digitsAfter (most := 1) hm hb hB hty hty2 (md_n3_ok hB hty2 (by decide) (by decide) (by decide) (s := (md_n3 Bf ty 116 97 116 (sp, w))) (md_n3_ok hB hty2 (by decide) (by decide) (by decide) (s := (sp, w)) hs)) (by decide) (by decide)) jm_X13_digitsAfter jw_2400 rfl (by first | exact hm.1 | exact hm.2.1 _ _ rfl | assumption) rfl rfl rfl dX13_parsesS_82 rfl ?_
    refine jk_iastR (q := 86) (by first | exact hm.1 | exact hm.2.1 _ _ rfl | assumption) (by first | exact jk_row_same _ _ _ | exact (md_pS_m _ _ _ _ _ _) | exact (md_pS_p _ _ _ _ _ _) | exact ((md_pS_ne _ _ _ _ _ _ (by omega) (by omega)).trans hb) | (rewrite [jk_row_ne _ _ (by omega)]; first | exact jk_row_same _ _ _ | exact (md_pS_m _ _ _ _ _ _) | exact (md_pS_p _ _ _ _ _ _) | exact ((md_pS_ne _ _ _ _ _ _ (by omega) (by omega)).trans hb) | (rewrite [jk_row_ne _ _ (by omega)]; first | exact jk_row_same _ _ _ | exact (md_pS_m _ _ _ _ _ _) | exact (md_pS_p _ _ _ _ _ _) | exact ((md_pS_ne _ _ _ _ _ _ (by omega) (by omega)).trans hb) | (rewrite [jk_row_ne _ _ (by omega)]; first | exact jk_row_same _ _ _ | exact (md_pS_m _ _ _ _ _ _) | exact (md_pS_p _ _ _ _ _ _) | exact ((md_pS_ne _ _ _ _ _ _ (by omega) (by omega)).trans hb) | (rewrite [jk_row_ne _ _ (by omega)]; first | exact (md_pS_m _ _ _ _ _ _) | exact (md_pS_p _ _ _ _ _ _) | exact ((md_pS_ne _ _ _ _ _ _ (by omega) (by omega)).trans hb) | rfl))))) (by first | decide | omega | exact jB_01 _) dX13_parsesS_85 rfl ?_
    rw [md_pS_P]
    refine jk_aload_n (q := 87) dX13_parsesS_86 rfl rfl ?_
    refine jk_getA (q := 90) (k := 13) 22 22 rfl (by first | exact hm.1 | exact hm.2.1 _ _ rfl | assumption) (by first | exact hm.2.2 _ _ rfl | assumption) rfl rfl jw_1870 dX13_parsesS_87 rfl ?_
    refine jk_iload_n (q := 91) dX13_parsesS_90 rfl rfl ?_
    refine jk_iconst (q := 92) dX13_parsesS_91 rfl ?_
    refine jk_iadd (q := 93) dX13_parsesS_92 rfl ?_
    refine jk_aload_n (q := 94) dX13_parsesS_93 rfl rfl ?_
    refine jk_bipush (q := 96) (y := 32) dX13_parsesS_94 rfl (by decide) ?_
    refine jk_iconst (q := 97) dX13_parsesS_96 rfl ?_
    refine jk_cV2p (q := 100) (c_X13_digitsAfter (most := 2) hm hb hB hty hty2 (md_da_ok hB hty2 (by decide) (c := 32) (most := 1) (s := (md_n3 Bf ty 105 111 110 (md_n3 Bf ty 116 97 116 (sp, w)))) (md_n3_ok hB hty2 (by decide) (by decide) (by decide) (s := (md_n3 Bf ty 116 97 116 (sp, w))) (md_n3_ok hB hty2 (by decide) (by decide) (by decide) (s := (sp, w)) hs))) (by decide) (by decide)) jm_X13_digitsAfter jw_2400 rfl (by first | exact hm.1 | exact hm.2.1 _ _ rfl | assumption) rfl rfl rfl dX13_parsesS_97 rfl ?_
    refine jk_iastR (q := 101) (by first | exact hm.1 | exact hm.2.1 _ _ rfl | assumption) (by first | exact jk_row_same _ _ _ | exact (md_pS_m _ _ _ _ _ _) | exact (md_pS_p _ _ _ _ _ _) | exact ((md_pS_ne _ _ _ _ _ _ (by omega) (by omega)).trans hb) | (rewrite [jk_row_ne _ _ (by omega)]; first | exact jk_row_same _ _ _ | exact (md_pS_m _ _ _ _ _ _) | exact (md_pS_p _ _ _ _ _ _) | exact ((md_pS_ne _ _ _ _ _ _ (by omega) (by omega)).trans hb) | (rewrite [jk_row_ne _ _ (by omega)]; first | exact jk_row_same _ _ _ | exact (md_pS_m _ _ _ _ _ _) | exact (md_pS_p _ _ _ _ _ _) | exact ((md_pS_ne _ _ _ _ _ _ (by omega) (by omega)).trans hb) | (rewrite [jk_row_ne _ _ (by omega)]; first | exact jk_row_same _ _ _ | exact (md_pS_m _ _ _ _ _ _) | exact (md_pS_p _ _ _ _ _ _) | exact ((md_pS_ne _ _ _ _ _ _ (by omega) (by omega)).trans hb) | (rewrite [jk_row_ne _ _ (by omega)]; first | exact (md_pS_m _ _ _ _ _ _) | exact (md_pS_p _ _ _ _ _ _) | exact ((md_pS_ne _ _ _ _ _ _ (by omega) (by omega)).trans hb) | rfl))))) (by first | decide | omega | exact jB_01 _) dX13_parsesS_100 rfl ?_
    rw [md_pS_P]
    refine jk_aload_n (q := 102) dX13_parsesS_101 rfl rfl ?_
    refine jk_getA (q := 105) (k := 13) 22 22 rfl (by first | exact hm.1 | exact hm.2.1 _ _ rfl | assumption) (by first | exact hm.2.2 _ _ rfl | assumption) rfl rfl jw_1870 dX13_parsesS_102 rfl ?_
    refine jk_iload_n (q := 106) dX13_parsesS_105 rfl rfl ?_
    refine jk_iconst (q := 107) dX13_parsesS_106 rfl ?_
    refine jk_iadd (q := 108) dX13_parsesS_107 rfl ?_
    refine jk_aload_n (q := 109) dX13_parsesS_108 rfl rfl ?_
    refine jk_bipush (q := 111) (y := 58) dX13_parsesS_109 rfl (by decide) ?_
    refine jk_cV1p (q := 114) (c_X13_valueAfter hm hb hB hty hty2 (md_da_ok hB hty2 (by decide) (c := 32) (most := 2) (s := (md_da Bf ty 32 1 (md_n3 Bf ty 105 111 110 (md_n3 Bf ty 116 97 116 (sp, w)))).1) (md_da_ok hB hty2 (by decide) (c := 32) (most := 1) (s := (md_n3 Bf ty 105 111 110 (md_n3 Bf ty 116 97 116 (sp, w)))) (md_n3_ok hB hty2 (by decide) (by decide) (by decide) (s := (md_n3 Bf ty 116 97 116 (sp, w))) (md_n3_ok hB hty2 (by decide) (by decide) (by decide) (s := (sp, w)) hs)))) (by decide)) jm_X13_valueAfter jw_2412 rfl (by first | exact hm.1 | exact hm.2.1 _ _ rfl | assumption) rfl rfl rfl dX13_parsesS_111 rfl ?_
    refine jk_iastR (q := 115) (by first | exact hm.1 | exact hm.2.1 _ _ rfl | assumption) (by first | exact jk_row_same _ _ _ | exact (md_pS_m _ _ _ _ _ _) | exact (md_pS_p _ _ _ _ _ _) | exact ((md_pS_ne _ _ _ _ _ _ (by omega) (by omega)).trans hb) | (rewrite [jk_row_ne _ _ (by omega)]; first | exact jk_row_same _ _ _ | exact (md_pS_m _ _ _ _ _ _) | exact (md_pS_p _ _ _ _ _ _) | exact ((md_pS_ne _ _ _ _ _ _ (by omega) (by omega)).trans hb) | (rewrite [jk_row_ne _ _ (by omega)]; first | exact jk_row_same _ _ _ | exact (md_pS_m _ _ _ _ _ _) | exact (md_pS_p _ _ _ _ _ _) | exact ((md_pS_ne _ _ _ _ _ _ (by omega) (by omega)).trans hb) | (rewrite [jk_row_ne _ _ (by omega)]; first | exact jk_row_same _ _ _ | exact (md_pS_m _ _ _ _ _ _) | exact (md_pS_p _ _ _ _ _ _) | exact ((md_pS_ne _ _ _ _ _ _ (by omega) (by omega)).trans hb) | (rewrite [jk_row_ne _ _ (by omega)]; first | exact (md_pS_m _ _ _ _ _ _) | exact (md_pS_p _ _ _ _ _ _) | exact ((md_pS_ne _ _ _ _ _ _ (by omega) (by omega)).trans hb) | rfl))))) (by first | decide | omega | exact jB_01 _) dX13_parsesS_114 rfl ?_
    rw [md_pS_P]
    exact jk_ret rfl dX13_parsesS_115 (by unfold md_pSt; first | (rw [if_pos (by assumption)]; exact jk_qr) | (rw [if_neg (by assumption)]; exact jk_qr))
  · refine jk_aload_n (q := 10) dX13_parsesS_9 rfl rfl ?_
    refine jk_getA (q := 13) (k := 13) 22 22 rfl (by first | exact hm.1 | exact hm.2.1 _ _ rfl | assumption) (by first | exact hm.2.2 _ _ rfl | assumption) rfl rfl jw_1870 dX13_parsesS_10 rfl ?_
    refine jk_iload_n (q := 14) dX13_parsesS_13 rfl rfl ?_
    refine jk_bipush (q := 16) (y := 104) dX13_parsesS_14 rfl (by decide) ?_
    refine jk_iastR (q := 17) (by first | exact hm.1 | exact hm.2.1 _ _ rfl | assumption) (by first | exact jk_row_same _ _ _ | exact (md_pS_m _ _ _ _ _ _) | exact (md_pS_p _ _ _ _ _ _) | exact ((md_pS_ne _ _ _ _ _ _ (by omega) (by omega)).trans hb) | (rewrite [jk_row_ne _ _ (by omega)]; first | exact jk_row_same _ _ _ | exact (md_pS_m _ _ _ _ _ _) | exact (md_pS_p _ _ _ _ _ _) | exact ((md_pS_ne _ _ _ _ _ _ (by omega) (by omega)).trans hb) | (rewrite [jk_row_ne _ _ (by omega)]; first | exact jk_row_same _ _ _ | exact (md_pS_m _ _ _ _ _ _) | exact (md_pS_p _ _ _ _ _ _) | exact ((md_pS_ne _ _ _ _ _ _ (by omega) (by omega)).trans hb) | (rewrite [jk_row_ne _ _ (by omega)]; first | exact jk_row_same _ _ _ | exact (md_pS_m _ _ _ _ _ _) | exact (md_pS_p _ _ _ _ _ _) | exact ((md_pS_ne _ _ _ _ _ _ (by omega) (by omega)).trans hb) | (rewrite [jk_row_ne _ _ (by omega)]; first | exact (md_pS_m _ _ _ _ _ _) | exact (md_pS_p _ _ _ _ _ _) | exact ((md_pS_ne _ _ _ _ _ _ (by omega) (by omega)).trans hb) | rfl))))) (by first | decide | omega | exact jB_01 _) dX13_parsesS_16 rfl ?_
    rw [md_pS_P]
    refine jk_aload_n (q := 18) dX13_parsesS_17 rfl rfl ?_
    refine jk_bipush (q := 20) (y := 104) dX13_parsesS_18 rfl (by decide) ?_
    refine jk_bipush (q := 22) (y := 97) dX13_parsesS_20 rfl (by decide) ?_
    refine jk_bipush (q := 24) (y := 114) dX13_parsesS_22 rfl (by decide) ?_
    refine jk_cV3v (q := 27) (c_X13_needsThree hm hb hB hty hty2 hs (by decide) (by decide) (by decide)) jm_X13_needsThree jw_2392 rfl (by first | exact hm.1 | exact hm.2.1 _ _ rfl | assumption) rfl rfl rfl dX13_parsesS_24 rfl ?_
    refine jk_aload_n (q := 28) dX13_parsesS_27 rfl rfl ?_
    refine jk_bipush (q := 30) (y := 101) dX13_parsesS_28 rfl (by decide) ?_
    refine jk_cV1v (q := 33) (c_X13_needs hm hb hB hty hty2 (md_n3_ok hB hty2 (by decide) (by decide) (by decide) (s := (sp, w)) hs) (by decide)) jm_X13_needs jw_2396 rfl (by first | exact hm.1 | exact hm.2.1 _ _ rfl | assumption) rfl rfl rfl dX13_parsesS_30 rfl ?_
    refine jk_aload_n (q := 34) dX13_parsesS_33 rfl rfl ?_
    refine jk_getA (q := 37) (k := 13) 22 22 rfl (by first | exact hm.1 | exact hm.2.1 _ _ rfl | assumption) (by first | exact hm.2.2 _ _ rfl | assumption) rfl rfl jw_1870 dX13_parsesS_34 rfl ?_
    refine jk_iload_n (q := 38) dX13_parsesS_37 rfl rfl ?_
    refine jk_iconst (q := 39) dX13_parsesS_38 rfl ?_
    refine jk_iadd (q := 40) dX13_parsesS_39 rfl ?_
    refine jk_aload_n (q := 41) dX13_parsesS_40 rfl rfl ?_
    refine jk_bipush (q := 43) (y := 32) dX13_parsesS_41 rfl (by decide) ?_
    refine jk_iconst (q := 44) dX13_parsesS_43 rfl ?_
    refine jk_cV2p (q := 47) (c_X13_digitsAfter (most := 2) hm hb hB hty hty2 (md_nd_ok hB hty2 (by decide) (s := (md_n3 Bf ty 104 97 114 (sp, w))) (md_n3_ok hB hty2 (by decide) (by decide) (by decide) (s := (sp, w)) hs)) (by decide) (by decide)) jm_X13_digitsAfter jw_2400 rfl (by first | exact hm.1 | exact hm.2.1 _ _ rfl | assumption) rfl rfl rfl dX13_parsesS_44 rfl ?_
    refine jk_iastR (q := 48) (by first | exact hm.1 | exact hm.2.1 _ _ rfl | assumption) (by first | exact jk_row_same _ _ _ | exact (md_pS_m _ _ _ _ _ _) | exact (md_pS_p _ _ _ _ _ _) | exact ((md_pS_ne _ _ _ _ _ _ (by omega) (by omega)).trans hb) | (rewrite [jk_row_ne _ _ (by omega)]; first | exact jk_row_same _ _ _ | exact (md_pS_m _ _ _ _ _ _) | exact (md_pS_p _ _ _ _ _ _) | exact ((md_pS_ne _ _ _ _ _ _ (by omega) (by omega)).trans hb) | (rewrite [jk_row_ne _ _ (by omega)]; first | exact jk_row_same _ _ _ | exact (md_pS_m _ _ _ _ _ _) | exact (md_pS_p _ _ _ _ _ _) | exact ((md_pS_ne _ _ _ _ _ _ (by omega) (by omega)).trans hb) | (rewrite [jk_row_ne _ _ (by omega)]; first | exact jk_row_same _ _ _ | exact (md_pS_m _ _ _ _ _ _) | exact (md_pS_p _ _ _ _ _ _) | exact ((md_pS_ne _ _ _ _ _ _ (by omega) (by omega)).trans hb) | (rewrite [jk_row_ne _ _ (by omega)]; first | exact (md_pS_m _ _ _ _ _ _) | exact (md_pS_p _ _ _ _ _ _) | exact ((md_pS_ne _ _ _ _ _ _ (by omega) (by omega)).trans hb) | rfl))))) (by first | decide | omega | exact jB_01 _) dX13_parsesS_47 rfl ?_
    rw [md_pS_P]
    refine jk_goto (q := 115) dX13_parsesS_48 rfl ?_
    exact jk_ret rfl dX13_parsesS_115 (by unfold md_pSt; first | (rw [if_pos (by assumption)]; exact jk_qr) | (rw [if_neg (by assumption)]; exact jk_qr))
theorem c_X13_parsesLine {G : jk_G} {n : Nat} {t : jk_T} {σ : jk_I} {ρ : jk_P} {m : Nat} {O Bf P : Int → Int} {ty sp : Int} {w : Bool} {k : Int} (hm : md_at t ρ m) (hb : σ (m + 10) = Bf) (hB : ∀ j, 0 ≤ j ∧ j < 60 → 0 ≤ Bf j ∧ Bf j < 65536) (hty : O 7 = ty) (hty2 : 0 ≤ ty ∧ ty ≤ 60) (hs : md_sok ty sp) (hk : 0 ≤ k ∧ k + 4 < 300) : jk_K G yX13_parsesLine mX13_parsesLine 0 0 [.ref m, jI k] n t (md_pS σ m O sp w P) ρ (jk_q none n t (md_pS σ m O (md_pL Bf ty k (sp, w) P).1.1 (md_pL Bf ty k (sp, w) P).1.2 (md_pL Bf ty k (sp, w) P).2) ρ) jk_no := by
  refine jk_entryB (ls := [some (.ref m), some (jI k)]) jm_X13_parsesLine.1 rfl rfl rfl ?_
  obtain ⟨hs1, hs2⟩ := id hs
  have hhe := md_he_bd hB hty2 hs1
  refine jk_aload_n (q := 1) dX13_parsesLine_0 rfl rfl ?_
  refine jk_bipush (q := 3) (y := 105) dX13_parsesLine_1 rfl (by decide) ?_
  refine jk_bipush (q := 5) (y := 110) dX13_parsesLine_3 rfl (by decide) ?_
  refine jk_bipush (q := 7) (y := 101) dX13_parsesLine_5 rfl (by decide) ?_
  refine jk_cV3v (q := 10) (c_X13_needsThree hm hb hB hty hty2 hs (by decide) (by decide) (by decide)) jm_X13_needsThree jw_2392 rfl (by first | exact hm.1 | exact hm.2.1 _ _ rfl | assumption) rfl rfl rfl dX13_parsesLine_7 rfl ?_
  refine jk_aload_n (q := 11) dX13_parsesLine_10 rfl rfl ?_
  refine jk_getA (q := 14) (k := 13) 22 22 rfl (by first | exact hm.1 | exact hm.2.1 _ _ rfl | assumption) (by first | exact hm.2.2 _ _ rfl | assumption) rfl rfl jw_1870 dX13_parsesLine_11 rfl ?_
  refine jk_iload_n (q := 15) dX13_parsesLine_14 rfl rfl ?_
  refine jk_iconst (q := 16) dX13_parsesLine_15 rfl ?_
  refine jk_iadd (q := 17) dX13_parsesLine_16 rfl ?_
  refine jk_aload_n (q := 18) dX13_parsesLine_17 rfl rfl ?_
  refine jk_bipush (q := 20) (y := 32) dX13_parsesLine_18 rfl (by decide) ?_
  refine jk_iconst (q := 21) dX13_parsesLine_20 rfl ?_
  refine jk_cV2p (q := 24) (c_X13_digitsAfter (most := 1) hm hb hB hty hty2 (md_n3_ok hB hty2 (by decide) (by decide) (by decide) (s := (sp, w)) hs) (by decide) (by decide)) jm_X13_digitsAfter jw_2400 rfl (by first | exact hm.1 | exact hm.2.1 _ _ rfl | assumption) rfl rfl rfl dX13_parsesLine_21 rfl ?_
  refine jk_iastR (q := 25) (by first | exact hm.1 | exact hm.2.1 _ _ rfl | assumption) (by first | exact jk_row_same _ _ _ | exact (md_pS_m _ _ _ _ _ _) | exact (md_pS_p _ _ _ _ _ _) | exact ((md_pS_ne _ _ _ _ _ _ (by omega) (by omega)).trans hb) | (rewrite [jk_row_ne _ _ (by omega)]; first | exact jk_row_same _ _ _ | exact (md_pS_m _ _ _ _ _ _) | exact (md_pS_p _ _ _ _ _ _) | exact ((md_pS_ne _ _ _ _ _ _ (by omega) (by omega)).trans hb) | (rewrite [jk_row_ne _ _ (by omega)]; first | exact jk_row_same _ _ _ | exact (md_pS_m _ _ _ _ _ _) | exact (md_pS_p _ _ _ _ _ _) | exact ((md_pS_ne _ _ _ _ _ _ (by omega) (by omega)).trans hb) | (rewrite [jk_row_ne _ _ (by omega)]; first | exact jk_row_same _ _ _ | exact (md_pS_m _ _ _ _ _ _) | exact (md_pS_p _ _ _ _ _ _) | exact ((md_pS_ne _ _ _ _ _ _ (by omega) (by omega)).trans hb) | (rewrite [jk_row_ne _ _ (by omega)]; first | exact (md_pS_m _ _ _ _ _ _) | exact (md_pS_p _ _ _ _ _ _) | exact ((md_pS_ne _ _ _ _ _ _ (by omega) (by omega)).trans hb) | rfl))))) (by first | decide | omega | exact jB_01 _) dX13_parsesLine_24 rfl ?_
  rw [md_pS_P]
  refine jk_aload_n (q := 26) dX13_parsesLine_25 rfl rfl ?_
  refine jk_getA (q := 29) (k := 13) 22 22 rfl (by first | exact hm.1 | exact hm.2.1 _ _ rfl | assumption) (by first | exact hm.2.2 _ _ rfl | assumption) rfl rfl jw_1870 dX13_parsesLine_26 rfl ?_
  refine jk_iload_n (q := 30) dX13_parsesLine_29 rfl rfl ?_
  refine jk_iconst (q := 31) dX13_parsesLine_30 rfl ?_
  refine jk_iadd (q := 32) dX13_parsesLine_31 rfl ?_
  refine jk_aload_n (q := 33) dX13_parsesLine_32 rfl rfl ?_
  refine jk_iconst (q := 34) dX13_parsesLine_33 rfl ?_
  refine jk_cV1p (q := 37) (c_X13_digits (most := 1) hm hb hB hty hty2 (md_da_ok hB hty2 (by decide) (c := 32) (most := 1) (s := (md_n3 Bf ty 105 110 101 (sp, w))) (md_n3_ok hB hty2 (by decide) (by decide) (by decide) (s := (sp, w)) hs)) (by decide)) jm_X13_digits jw_2404 rfl (by first | exact hm.1 | exact hm.2.1 _ _ rfl | assumption) rfl rfl rfl dX13_parsesLine_34 rfl ?_
  refine jk_iastR (q := 38) (by first | exact hm.1 | exact hm.2.1 _ _ rfl | assumption) (by first | exact jk_row_same _ _ _ | exact (md_pS_m _ _ _ _ _ _) | exact (md_pS_p _ _ _ _ _ _) | exact ((md_pS_ne _ _ _ _ _ _ (by omega) (by omega)).trans hb) | (rewrite [jk_row_ne _ _ (by omega)]; first | exact jk_row_same _ _ _ | exact (md_pS_m _ _ _ _ _ _) | exact (md_pS_p _ _ _ _ _ _) | exact ((md_pS_ne _ _ _ _ _ _ (by omega) (by omega)).trans hb) | (rewrite [jk_row_ne _ _ (by omega)]; first | exact jk_row_same _ _ _ | exact (md_pS_m _ _ _ _ _ _) | exact (md_pS_p _ _ _ _ _ _) | exact ((md_pS_ne _ _ _ _ _ _ (by omega) (by omega)).trans hb) | (rewrite [jk_row_ne _ _ (by omega)]; first | exact jk_row_same _ _ _ | exact (md_pS_m _ _ _ _ _ _) | exact (md_pS_p _ _ _ _ _ _) | exact ((md_pS_ne _ _ _ _ _ _ (by omega) (by omega)).trans hb) | (rewrite [jk_row_ne _ _ (by omega)]; first | exact (md_pS_m _ _ _ _ _ _) | exact (md_pS_p _ _ _ _ _ _) | exact ((md_pS_ne _ _ _ _ _ _ (by omega) (by omega)).trans hb) | rfl))))) (by first | decide | omega | exact jB_01 _) dX13_parsesLine_37 rfl ?_
  rw [md_pS_P]
  refine jk_aload_n (q := 39) dX13_parsesLine_38 rfl rfl ?_
  refine jk_getA (q := 42) (k := 13) 22 22 rfl (by first | exact hm.1 | exact hm.2.1 _ _ rfl | assumption) (by first | exact hm.2.2 _ _ rfl | assumption) rfl rfl jw_1870 dX13_parsesLine_39 rfl ?_
  refine jk_iload_n (q := 43) dX13_parsesLine_42 rfl rfl ?_
  refine jk_iconst (q := 44) dX13_parsesLine_43 rfl ?_
  refine jk_iadd (q := 45) dX13_parsesLine_44 rfl ?_
  refine jk_aload_n (q := 46) dX13_parsesLine_45 rfl rfl ?_
  refine jk_bipush (q := 48) (y := 32) dX13_parsesLine_46 rfl (by decide) ?_
  refine jk_cV1p (q := 51) (c_X13_valueAfter hm hb hB hty hty2 (md_di_ok hB hty2 (most := 1) (s := (md_da Bf ty 32 1 (md_n3 Bf ty 105 110 101 (sp, w))).1) (md_da_ok hB hty2 (by decide) (c := 32) (most := 1) (s := (md_n3 Bf ty 105 110 101 (sp, w))) (md_n3_ok hB hty2 (by decide) (by decide) (by decide) (s := (sp, w)) hs))) (by decide)) jm_X13_valueAfter jw_2412 rfl (by first | exact hm.1 | exact hm.2.1 _ _ rfl | assumption) rfl rfl rfl dX13_parsesLine_48 rfl ?_
  refine jk_iastR (q := 52) (by first | exact hm.1 | exact hm.2.1 _ _ rfl | assumption) (by first | exact jk_row_same _ _ _ | exact (md_pS_m _ _ _ _ _ _) | exact (md_pS_p _ _ _ _ _ _) | exact ((md_pS_ne _ _ _ _ _ _ (by omega) (by omega)).trans hb) | (rewrite [jk_row_ne _ _ (by omega)]; first | exact jk_row_same _ _ _ | exact (md_pS_m _ _ _ _ _ _) | exact (md_pS_p _ _ _ _ _ _) | exact ((md_pS_ne _ _ _ _ _ _ (by omega) (by omega)).trans hb) | (rewrite [jk_row_ne _ _ (by omega)]; first | exact jk_row_same _ _ _ | exact (md_pS_m _ _ _ _ _ _) | exact (md_pS_p _ _ _ _ _ _) | exact ((md_pS_ne _ _ _ _ _ _ (by omega) (by omega)).trans hb) | (rewrite [jk_row_ne _ _ (by omega)]; first | exact jk_row_same _ _ _ | exact (md_pS_m _ _ _ _ _ _) | exact (md_pS_p _ _ _ _ _ _) | exact ((md_pS_ne _ _ _ _ _ _ (by omega) (by omega)).trans hb) | (rewrite [jk_row_ne _ _ (by omega)]; first | exact (md_pS_m _ _ _ _ _ _) | exact (md_pS_p _ _ _ _ _ _) | exact ((md_pS_ne _ _ _ _ _ _ (by omega) (by omega)).trans hb) | rfl))))) (by first | decide | omega | exact jB_01 _) dX13_parsesLine_51 rfl ?_
  rw [md_pS_P]
  refine jk_aload_n (q := 53) dX13_parsesLine_52 rfl rfl ?_
  refine jk_getA (q := 56) (k := 13) 22 22 rfl (by first | exact hm.1 | exact hm.2.1 _ _ rfl | assumption) (by first | exact hm.2.2 _ _ rfl | assumption) rfl rfl jw_1870 dX13_parsesLine_53 rfl ?_
  refine jk_iload_n (q := 57) dX13_parsesLine_56 rfl rfl ?_
  refine jk_iconst (q := 58) dX13_parsesLine_57 rfl ?_
  refine jk_iadd (q := 59) dX13_parsesLine_58 rfl ?_
  refine jk_aload_n (q := 60) dX13_parsesLine_59 rfl rfl ?_
  refine jk_bipush (q := 62) (y := 47) dX13_parsesLine_60 rfl (by decide) ?_
  refine jk_iconst (q := 63) dX13_parsesLine_62 rfl ?_
  refine jk_cV2p (q := 66) (c_X13_digitsAfter (most := 2) hm hb hB hty hty2 (md_va_ok hB hty2 (by decide) (c := 32) (s := (md_di Bf ty 1 (md_da Bf ty 32 1 (md_n3 Bf ty 105 110 101 (sp, w))).1).1) (md_di_ok hB hty2 (most := 1) (s := (md_da Bf ty 32 1 (md_n3 Bf ty 105 110 101 (sp, w))).1) (md_da_ok hB hty2 (by decide) (c := 32) (most := 1) (s := (md_n3 Bf ty 105 110 101 (sp, w))) (md_n3_ok hB hty2 (by decide) (by decide) (by decide) (s := (sp, w)) hs)))) (by decide) (by decide)) jm_X13_digitsAfter jw_2400 rfl (by first | exact hm.1 | exact hm.2.1 _ _ rfl | assumption) rfl rfl rfl dX13_parsesLine_63 rfl ?_
  refine jk_iastR (q := 67) (by first | exact hm.1 | exact hm.2.1 _ _ rfl | assumption) (by first | exact jk_row_same _ _ _ | exact (md_pS_m _ _ _ _ _ _) | exact (md_pS_p _ _ _ _ _ _) | exact ((md_pS_ne _ _ _ _ _ _ (by omega) (by omega)).trans hb) | (rewrite [jk_row_ne _ _ (by omega)]; first | exact jk_row_same _ _ _ | exact (md_pS_m _ _ _ _ _ _) | exact (md_pS_p _ _ _ _ _ _) | exact ((md_pS_ne _ _ _ _ _ _ (by omega) (by omega)).trans hb) | (rewrite [jk_row_ne _ _ (by omega)]; first | exact jk_row_same _ _ _ | exact (md_pS_m _ _ _ _ _ _) | exact (md_pS_p _ _ _ _ _ _) | exact ((md_pS_ne _ _ _ _ _ _ (by omega) (by omega)).trans hb) | (rewrite [jk_row_ne _ _ (by omega)]; first | exact jk_row_same _ _ _ | exact (md_pS_m _ _ _ _ _ _) | exact (md_pS_p _ _ _ _ _ _) | exact ((md_pS_ne _ _ _ _ _ _ (by omega) (by omega)).trans hb) | (rewrite [jk_row_ne _ _ (by omega)]; first | exact (md_pS_m _ _ _ _ _ _) | exact (md_pS_p _ _ _ _ _ _) | exact ((md_pS_ne _ _ _ _ _ _ (by omega) (by omega)).trans hb) | rfl))))) (by first | decide | omega | exact jB_01 _) dX13_parsesLine_66 rfl ?_
  rw [md_pS_P]
  exact jk_ret rfl dX13_parsesLine_67 (by exact jk_qr)
theorem c_X13_parsesMark {G : jk_G} {n : Nat} {t : jk_T} {σ : jk_I} {ρ : jk_P} {m : Nat} {O Bf P : Int → Int} {ty sp : Int} {w : Bool} {k x y : Int} (hm : md_at t ρ m) (hb : σ (m + 10) = Bf) (hB : ∀ j, 0 ≤ j ∧ j < 60 → 0 ≤ Bf j ∧ Bf j < 65536) (hty : O 7 = ty) (hty2 : 0 ≤ ty ∧ ty ≤ 60) (hs : md_sok ty sp) (hk : 0 ≤ k ∧ k + 4 < 300) (hx : 0 ≤ x ∧ x < 65536) (hy : 0 ≤ y ∧ y < 65536) : jk_K G yX13_parsesMark mX13_parsesMark 0 0 [.ref m, jI k, jI x, jI y] n t (md_pS σ m O sp w P) ρ (jk_q none n t (md_pS σ m O (md_pM Bf ty k x y (sp, w) P).1.1 (md_pM Bf ty k x y (sp, w) P).1.2 (md_pM Bf ty k x y (sp, w) P).2) ρ) jk_no := by
  refine jk_entryB (ls := [some (.ref m), some (jI k), some (jI x), some (jI y)]) jm_X13_parsesMark.1 rfl rfl rfl ?_
  obtain ⟨hs1, hs2⟩ := id hs
  have hhe := md_he_bd hB hty2 hs1
  refine jk_aload_n (q := 1) dX13_parsesMark_0 rfl rfl ?_
  refine jk_iload_n (q := 2) dX13_parsesMark_1 rfl rfl ?_
  refine jk_cV1v (q := 5) (c_X13_needs hm hb hB hty hty2 hs hx) jm_X13_needs jw_2396 rfl (by first | exact hm.1 | exact hm.2.1 _ _ rfl | assumption) rfl rfl rfl dX13_parsesMark_2 rfl ?_
  refine jk_aload_n (q := 6) dX13_parsesMark_5 rfl rfl ?_
  refine jk_iload_n (q := 7) dX13_parsesMark_6 rfl rfl ?_
  refine jk_cV1v (q := 10) (c_X13_needs hm hb hB hty hty2 (md_nd_ok hB hty2 hx.1 (s := (sp, w)) hs) hy) jm_X13_needs jw_2396 rfl (by first | exact hm.1 | exact hm.2.1 _ _ rfl | assumption) rfl rfl rfl dX13_parsesMark_7 rfl ?_
  refine jk_aload_n (q := 11) dX13_parsesMark_10 rfl rfl ?_
  refine jk_bipush (q := 13) (y := 108) dX13_parsesMark_11 rfl (by decide) ?_
  refine jk_bipush (q := 15) (y := 117) dX13_parsesMark_13 rfl (by decide) ?_
  refine jk_bipush (q := 17) (y := 100) dX13_parsesMark_15 rfl (by decide) ?_
  refine jk_cV3v (q := 20) (c_X13_needsThree hm hb hB hty hty2 (md_nd_ok hB hty2 hy.1 (s := (md_nd Bf ty x (sp, w))) (md_nd_ok hB hty2 hx.1 (s := (sp, w)) hs)) (by decide) (by decide) (by decide)) jm_X13_needsThree jw_2392 rfl (by first | exact hm.1 | exact hm.2.1 _ _ rfl | assumption) rfl rfl rfl dX13_parsesMark_17 rfl ?_
  refine jk_aload_n (q := 21) dX13_parsesMark_20 rfl rfl ?_
  refine jk_bipush (q := 23) (y := 101) dX13_parsesMark_21 rfl (by decide) ?_
  refine jk_cV1v (q := 26) (c_X13_needs hm hb hB hty hty2 (md_n3_ok hB hty2 (by decide) (by decide) (by decide) (s := (md_nd Bf ty y (md_nd Bf ty x (sp, w)))) (md_nd_ok hB hty2 hy.1 (s := (md_nd Bf ty x (sp, w))) (md_nd_ok hB hty2 hx.1 (s := (sp, w)) hs))) (by decide)) jm_X13_needs jw_2396 rfl (by first | exact hm.1 | exact hm.2.1 _ _ rfl | assumption) rfl rfl rfl dX13_parsesMark_23 rfl ?_
  refine jk_aload_n (q := 27) dX13_parsesMark_26 rfl rfl ?_
  refine jk_getA (q := 30) (k := 13) 22 22 rfl (by first | exact hm.1 | exact hm.2.1 _ _ rfl | assumption) (by first | exact hm.2.2 _ _ rfl | assumption) rfl rfl jw_1870 dX13_parsesMark_27 rfl ?_
  refine jk_iload_n (q := 31) dX13_parsesMark_30 rfl rfl ?_
  refine jk_iconst (q := 32) dX13_parsesMark_31 rfl ?_
  refine jk_iadd (q := 33) dX13_parsesMark_32 rfl ?_
  refine jk_aload_n (q := 34) dX13_parsesMark_33 rfl rfl ?_
  refine jk_bipush (q := 36) (y := 32) dX13_parsesMark_34 rfl (by decide) ?_
  refine jk_iconst (q := 37) dX13_parsesMark_36 rfl ?_
  refine jk_cV2p (q := 40) (c_X13_digitsAfter (most := 2) hm hb hB hty hty2 (md_nd_ok hB hty2 (by decide) (s := (md_n3 Bf ty 108 117 100 (md_nd Bf ty y (md_nd Bf ty x (sp, w))))) (md_n3_ok hB hty2 (by decide) (by decide) (by decide) (s := (md_nd Bf ty y (md_nd Bf ty x (sp, w)))) (md_nd_ok hB hty2 hy.1 (s := (md_nd Bf ty x (sp, w))) (md_nd_ok hB hty2 hx.1 (s := (sp, w)) hs)))) (by decide) (by decide)) jm_X13_digitsAfter jw_2400 rfl (by first | exact hm.1 | exact hm.2.1 _ _ rfl | assumption) rfl rfl rfl dX13_parsesMark_37 rfl ?_
  refine jk_iastR (q := 41) (by first | exact hm.1 | exact hm.2.1 _ _ rfl | assumption) (by first | exact jk_row_same _ _ _ | exact (md_pS_m _ _ _ _ _ _) | exact (md_pS_p _ _ _ _ _ _) | exact ((md_pS_ne _ _ _ _ _ _ (by omega) (by omega)).trans hb) | (rewrite [jk_row_ne _ _ (by omega)]; first | exact jk_row_same _ _ _ | exact (md_pS_m _ _ _ _ _ _) | exact (md_pS_p _ _ _ _ _ _) | exact ((md_pS_ne _ _ _ _ _ _ (by omega) (by omega)).trans hb) | (rewrite [jk_row_ne _ _ (by omega)]; first | exact jk_row_same _ _ _ | exact (md_pS_m _ _ _ _ _ _) | exact (md_pS_p _ _ _ _ _ _) | exact ((md_pS_ne _ _ _ _ _ _ (by omega) (by omega)).trans hb) | (rewrite [jk_row_ne _ _ (by omega)]; first | exact jk_row_same _ _ _ | exact (md_pS_m _ _ _ _ _ _) | exact (md_pS_p _ _ _ _ _ _) | exact ((md_pS_ne _ _ _ _ _ _ (by omega) (by omega)).trans hb) | (rewrite [jk_row_ne _ _ (by omega)]; first | exact (md_pS_m _ _ _ _ _ _) | exact (md_pS_p _ _ _ _ _ _) | exact ((md_pS_ne _ _ _ _ _ _ (by omega) (by omega)).trans hb) | rfl))))) (by first | decide | omega | exact jB_01 _) dX13_parsesMark_40 rfl ?_
  rw [md_pS_P]
  exact jk_ret rfl dX13_parsesMark_41 (by exact jk_qr)
theorem c_X13_parsesCommand {G : jk_G} {n : Nat} {t : jk_T} {σ : jk_I} {ρ : jk_P} {m : Nat} {O Bf P : Int → Int} {ty sp : Int} {w : Bool} {k : Int} (hm : md_at t ρ m) (hb : σ (m + 10) = Bf) (hB : ∀ j, 0 ≤ j ∧ j < 60 → 0 ≤ Bf j ∧ Bf j < 65536) (hty : O 7 = ty) (hty2 : 0 ≤ ty ∧ ty ≤ 60) (hs : md_sok ty sp) (hk : 0 ≤ k ∧ k + 4 < 300) : jk_K G yX13_parsesCommand mX13_parsesCommand 0 0 [.ref m, jI k] n t (md_pS σ m O sp w P) ρ (jk_q none n t (md_pS σ m O (md_cmd Bf ty k (sp, w) P).1.1 (md_cmd Bf ty k (sp, w) P).1.2 (md_cmd Bf ty k (sp, w) P).2) ρ) jk_no := by
  refine jk_entryB (ls := [some (.ref m), some (jI k), none]) jm_X13_parsesCommand.1 rfl rfl rfl ?_
  obtain ⟨hs1, hs2⟩ := id hs
  have hhe := md_he_bd hB hty2 hs1
  refine jk_aload_n (q := 1) dX13_parsesCommand_0 rfl rfl ?_
  refine jk_cV0p (q := 4) (c_X13_here hm hb hB hty hty2 hs) jm_X13_here jw_2384 rfl (by first | exact hm.1 | exact hm.2.1 _ _ rfl | assumption) rfl rfl rfl dX13_parsesCommand_1 rfl ?_
  refine jk_istore2 (q := 5) dX13_parsesCommand_4 rfl rfl rfl ?_
  refine jk_aload_n (q := 6) dX13_parsesCommand_5 rfl rfl ?_
  refine jk_dup (q := 7) dX13_parsesCommand_6 rfl rfl ?_
  refine jk_getIR (q := 10) (k := 13) 20 20 rfl (by first | exact hm.1 | exact hm.2.1 _ _ rfl | assumption) (by first | exact jk_row_same _ _ _ | exact (md_pS_m _ _ _ _ _ _) | exact (md_pS_p _ _ _ _ _ _) | exact ((md_pS_ne _ _ _ _ _ _ (by omega) (by omega)).trans hb) | (rewrite [jk_row_ne _ _ (by omega)]; first | exact jk_row_same _ _ _ | exact (md_pS_m _ _ _ _ _ _) | exact (md_pS_p _ _ _ _ _ _) | exact ((md_pS_ne _ _ _ _ _ _ (by omega) (by omega)).trans hb) | (rewrite [jk_row_ne _ _ (by omega)]; first | exact jk_row_same _ _ _ | exact (md_pS_m _ _ _ _ _ _) | exact (md_pS_p _ _ _ _ _ _) | exact ((md_pS_ne _ _ _ _ _ _ (by omega) (by omega)).trans hb) | (rewrite [jk_row_ne _ _ (by omega)]; first | exact jk_row_same _ _ _ | exact (md_pS_m _ _ _ _ _ _) | exact (md_pS_p _ _ _ _ _ _) | exact ((md_pS_ne _ _ _ _ _ _ (by omega) (by omega)).trans hb) | (rewrite [jk_row_ne _ _ (by omega)]; first | exact (md_pS_m _ _ _ _ _ _) | exact (md_pS_p _ _ _ _ _ _) | exact ((md_pS_ne _ _ _ _ _ _ (by omega) (by omega)).trans hb) | rfl))))) rfl rfl jw_1868 dX13_parsesCommand_7 rfl ?_
  rw [md_f20]
  refine jk_iconst (q := 11) dX13_parsesCommand_10 rfl ?_
  refine jk_iadd (q := 12) dX13_parsesCommand_11 rfl ?_
  refine jk_putIR (q := 15) (k := 13) 20 20 rfl (by first | exact hm.1 | exact hm.2.1 _ _ rfl | assumption) (by first | exact jk_row_same _ _ _ | exact (md_pS_m _ _ _ _ _ _) | exact (md_pS_p _ _ _ _ _ _) | exact ((md_pS_ne _ _ _ _ _ _ (by omega) (by omega)).trans hb) | (rewrite [jk_row_ne _ _ (by omega)]; first | exact jk_row_same _ _ _ | exact (md_pS_m _ _ _ _ _ _) | exact (md_pS_p _ _ _ _ _ _) | exact ((md_pS_ne _ _ _ _ _ _ (by omega) (by omega)).trans hb) | (rewrite [jk_row_ne _ _ (by omega)]; first | exact jk_row_same _ _ _ | exact (md_pS_m _ _ _ _ _ _) | exact (md_pS_p _ _ _ _ _ _) | exact ((md_pS_ne _ _ _ _ _ _ (by omega) (by omega)).trans hb) | (rewrite [jk_row_ne _ _ (by omega)]; first | exact jk_row_same _ _ _ | exact (md_pS_m _ _ _ _ _ _) | exact (md_pS_p _ _ _ _ _ _) | exact ((md_pS_ne _ _ _ _ _ _ (by omega) (by omega)).trans hb) | (rewrite [jk_row_ne _ _ (by omega)]; first | exact (md_pS_m _ _ _ _ _ _) | exact (md_pS_p _ _ _ _ _ _) | exact ((md_pS_ne _ _ _ _ _ _ (by omega) (by omega)).trans hb) | rfl))))) rfl rfl rfl jw_1868 dX13_parsesCommand_12 rfl ?_
  rw [md_pS_sp]
  refine jk_aload_n (q := 16) dX13_parsesCommand_15 rfl rfl ?_
  refine jk_getA (q := 19) (k := 13) 22 22 rfl (by first | exact hm.1 | exact hm.2.1 _ _ rfl | assumption) (by first | exact hm.2.2 _ _ rfl | assumption) rfl rfl jw_1870 dX13_parsesCommand_16 rfl ?_
  refine jk_iload_n (q := 20) dX13_parsesCommand_19 rfl rfl ?_
  refine jk_iload_n (q := 21) dX13_parsesCommand_20 rfl rfl ?_
  refine jk_iastR (q := 22) (by first | exact hm.1 | exact hm.2.1 _ _ rfl | assumption) (by first | exact jk_row_same _ _ _ | exact (md_pS_m _ _ _ _ _ _) | exact (md_pS_p _ _ _ _ _ _) | exact ((md_pS_ne _ _ _ _ _ _ (by omega) (by omega)).trans hb) | (rewrite [jk_row_ne _ _ (by omega)]; first | exact jk_row_same _ _ _ | exact (md_pS_m _ _ _ _ _ _) | exact (md_pS_p _ _ _ _ _ _) | exact ((md_pS_ne _ _ _ _ _ _ (by omega) (by omega)).trans hb) | (rewrite [jk_row_ne _ _ (by omega)]; first | exact jk_row_same _ _ _ | exact (md_pS_m _ _ _ _ _ _) | exact (md_pS_p _ _ _ _ _ _) | exact ((md_pS_ne _ _ _ _ _ _ (by omega) (by omega)).trans hb) | (rewrite [jk_row_ne _ _ (by omega)]; first | exact jk_row_same _ _ _ | exact (md_pS_m _ _ _ _ _ _) | exact (md_pS_p _ _ _ _ _ _) | exact ((md_pS_ne _ _ _ _ _ _ (by omega) (by omega)).trans hb) | (rewrite [jk_row_ne _ _ (by omega)]; first | exact (md_pS_m _ _ _ _ _ _) | exact (md_pS_p _ _ _ _ _ _) | exact ((md_pS_ne _ _ _ _ _ _ (by omega) (by omega)).trans hb) | rfl))))) (by first | decide | omega | exact jB_01 _) dX13_parsesCommand_21 rfl ?_
  rw [md_pS_P]
  refine jk_iload_n (q := 23) dX13_parsesCommand_22 rfl rfl ?_
  refine jk_caseC 98 (fun h1 => ?_) (fun h1 => ?_)
  · refine jk_tswIn (q := 148) (by decide) dX13_parsesCommand_23 (by decide) rfl rfl ?_
    have hs9 : md_sok ty (sp + 1) := (by have := hhe.2.2 (by omega); unfold md_sok; omega)
    refine jk_aload_n (q := 149) dX13_parsesCommand_148 rfl rfl ?_
    refine jk_bipush (q := 151) (y := 97) dX13_parsesCommand_149 rfl (by decide) ?_
    refine jk_bipush (q := 153) (y := 99) dX13_parsesCommand_151 rfl (by decide) ?_
    refine jk_bipush (q := 155) (y := 107) dX13_parsesCommand_153 rfl (by decide) ?_
    refine jk_cV3v (q := 158) (c_X13_needsThree hm hb hB hty hty2 hs9 (by decide) (by decide) (by decide)) jm_X13_needsThree jw_2392 rfl (by first | exact hm.1 | exact hm.2.1 _ _ rfl | assumption) rfl rfl rfl dX13_parsesCommand_155 rfl ?_
    refine jk_aload_n (q := 159) dX13_parsesCommand_158 rfl rfl ?_
    refine jk_getA (q := 162) (k := 13) 22 22 rfl (by first | exact hm.1 | exact hm.2.1 _ _ rfl | assumption) (by first | exact hm.2.2 _ _ rfl | assumption) rfl rfl jw_1870 dX13_parsesCommand_159 rfl ?_
    refine jk_iload_n (q := 163) dX13_parsesCommand_162 rfl rfl ?_
    refine jk_iconst (q := 164) dX13_parsesCommand_163 rfl ?_
    refine jk_iadd (q := 165) dX13_parsesCommand_164 rfl ?_
    refine jk_aload_n (q := 166) dX13_parsesCommand_165 rfl rfl ?_
    refine jk_bipush (q := 168) (y := 32) dX13_parsesCommand_166 rfl (by decide) ?_
    refine jk_iconst (q := 169) dX13_parsesCommand_168 rfl ?_
    refine jk_cV2p (q := 172) (c_X13_digitsAfter (most := 2) hm hb hB hty hty2 (md_n3_ok hB hty2 (by decide) (by decide) (by decide) (s := (sp + 1, w)) hs9) (by decide) (by decide)) jm_X13_digitsAfter jw_2400 rfl (by first | exact hm.1 | exact hm.2.1 _ _ rfl | assumption) rfl rfl rfl dX13_parsesCommand_169 rfl ?_
    refine jk_iastR (q := 173) (by first | exact hm.1 | exact hm.2.1 _ _ rfl | assumption) (by first | exact jk_row_same _ _ _ | exact (md_pS_m _ _ _ _ _ _) | exact (md_pS_p _ _ _ _ _ _) | exact ((md_pS_ne _ _ _ _ _ _ (by omega) (by omega)).trans hb) | (rewrite [jk_row_ne _ _ (by omega)]; first | exact jk_row_same _ _ _ | exact (md_pS_m _ _ _ _ _ _) | exact (md_pS_p _ _ _ _ _ _) | exact ((md_pS_ne _ _ _ _ _ _ (by omega) (by omega)).trans hb) | (rewrite [jk_row_ne _ _ (by omega)]; first | exact jk_row_same _ _ _ | exact (md_pS_m _ _ _ _ _ _) | exact (md_pS_p _ _ _ _ _ _) | exact ((md_pS_ne _ _ _ _ _ _ (by omega) (by omega)).trans hb) | (rewrite [jk_row_ne _ _ (by omega)]; first | exact jk_row_same _ _ _ | exact (md_pS_m _ _ _ _ _ _) | exact (md_pS_p _ _ _ _ _ _) | exact ((md_pS_ne _ _ _ _ _ _ (by omega) (by omega)).trans hb) | (rewrite [jk_row_ne _ _ (by omega)]; first | exact (md_pS_m _ _ _ _ _ _) | exact (md_pS_p _ _ _ _ _ _) | exact ((md_pS_ne _ _ _ _ _ _ (by omega) (by omega)).trans hb) | rfl))))) (by first | decide | omega | exact jB_01 _) dX13_parsesCommand_172 rfl ?_
    rw [md_pS_P]
    refine jk_aload_n (q := 174) dX13_parsesCommand_173 rfl rfl ?_
    refine jk_getA (q := 177) (k := 13) 22 22 rfl (by first | exact hm.1 | exact hm.2.1 _ _ rfl | assumption) (by first | exact hm.2.2 _ _ rfl | assumption) rfl rfl jw_1870 dX13_parsesCommand_174 rfl ?_
    refine jk_iload_n (q := 178) dX13_parsesCommand_177 rfl rfl ?_
    refine jk_iconst (q := 179) dX13_parsesCommand_178 rfl ?_
    refine jk_iadd (q := 180) dX13_parsesCommand_179 rfl ?_
    refine jk_aload_n (q := 181) dX13_parsesCommand_180 rfl rfl ?_
    refine jk_bipush (q := 183) (y := 32) dX13_parsesCommand_181 rfl (by decide) ?_
    refine jk_cV1p (q := 186) (c_X13_valueAfter hm hb hB hty hty2 (md_da_ok hB hty2 (by decide) (c := 32) (most := 2) (s := (md_n3 Bf ty 97 99 107 (sp + 1, w))) (md_n3_ok hB hty2 (by decide) (by decide) (by decide) (s := (sp + 1, w)) hs9)) (by decide)) jm_X13_valueAfter jw_2412 rfl (by first | exact hm.1 | exact hm.2.1 _ _ rfl | assumption) rfl rfl rfl dX13_parsesCommand_183 rfl ?_
    refine jk_iastR (q := 187) (by first | exact hm.1 | exact hm.2.1 _ _ rfl | assumption) (by first | exact jk_row_same _ _ _ | exact (md_pS_m _ _ _ _ _ _) | exact (md_pS_p _ _ _ _ _ _) | exact ((md_pS_ne _ _ _ _ _ _ (by omega) (by omega)).trans hb) | (rewrite [jk_row_ne _ _ (by omega)]; first | exact jk_row_same _ _ _ | exact (md_pS_m _ _ _ _ _ _) | exact (md_pS_p _ _ _ _ _ _) | exact ((md_pS_ne _ _ _ _ _ _ (by omega) (by omega)).trans hb) | (rewrite [jk_row_ne _ _ (by omega)]; first | exact jk_row_same _ _ _ | exact (md_pS_m _ _ _ _ _ _) | exact (md_pS_p _ _ _ _ _ _) | exact ((md_pS_ne _ _ _ _ _ _ (by omega) (by omega)).trans hb) | (rewrite [jk_row_ne _ _ (by omega)]; first | exact jk_row_same _ _ _ | exact (md_pS_m _ _ _ _ _ _) | exact (md_pS_p _ _ _ _ _ _) | exact ((md_pS_ne _ _ _ _ _ _ (by omega) (by omega)).trans hb) | (rewrite [jk_row_ne _ _ (by omega)]; first | exact (md_pS_m _ _ _ _ _ _) | exact (md_pS_p _ _ _ _ _ _) | exact ((md_pS_ne _ _ _ _ _ _ (by omega) (by omega)).trans hb) | rfl))))) (by first | decide | omega | exact jB_01 _) dX13_parsesCommand_186 rfl ?_
    rw [md_pS_P]
    refine jk_goto (q := 289) dX13_parsesCommand_187 rfl ?_
    exact jk_ret rfl dX13_parsesCommand_289 (by unfold md_cmd; dsimp only; first | (rw [if_pos (by assumption)]; exact jk_qr) | (rw [if_neg (by assumption), if_pos (by assumption)]; exact jk_qr) | (rw [if_neg (by assumption), if_neg (by assumption), if_pos (by assumption)]; exact jk_qr) | (rw [if_neg (by assumption), if_neg (by assumption), if_neg (by assumption), if_pos (by assumption)]; exact jk_qr) | (rw [if_neg (by assumption), if_neg (by assumption), if_neg (by assumption), if_neg (by assumption), if_pos (by assumption)]; exact jk_qr) | (rw [if_neg (by assumption), if_neg (by assumption), if_neg (by assumption), if_neg (by assumption), if_neg (by assumption), if_pos (by assumption)]; exact jk_qr) | (rw [if_neg (by assumption), if_neg (by assumption), if_neg (by assumption), if_neg (by assumption), if_neg (by assumption), if_neg (by assumption), if_pos (by assumption)]; exact jk_qr) | (rw [if_neg (by assumption), if_neg (by assumption), if_neg (by assumption), if_neg (by assumption), if_neg (by assumption), if_neg (by assumption), if_neg (by assumption), if_pos (by assumption)]; exact jk_qr) | (rw [if_neg (by assumption), if_neg (by assumption), if_neg (by assumption), if_neg (by assumption), if_neg (by assumption), if_neg (by assumption), if_neg (by assumption), if_neg (by assumption), if_pos (by assumption)]; exact jk_qr) | (rw [if_neg (by assumption), if_neg (by assumption), if_neg (by assumption), if_neg (by assumption), if_neg (by assumption), if_neg (by assumption), if_neg (by assumption), if_neg (by assumption), if_neg (by assumption)]; exact jk_qr))
  refine jk_caseC 101 (fun h2 => ?_) (fun h2 => ?_)
  · refine jk_tswIn (q := 190) (by decide) dX13_parsesCommand_23 (by decide) rfl rfl ?_
    have hs9 : md_sok ty (sp + 1) := (by have := hhe.2.2 (by omega); unfold md_sok; omega)
    refine jk_aload_n (q := 191) dX13_parsesCommand_190 rfl rfl ?_
    refine jk_iload_n (q := 192) dX13_parsesCommand_191 rfl rfl ?_
    refine jk_bipush (q := 194) (y := 120) dX13_parsesCommand_192 rfl (by decide) ?_
    refine jk_bipush (q := 196) (y := 99) dX13_parsesCommand_194 rfl (by decide) ?_
    refine jk_cV3v (q := 199) (c_X13_parsesMark hm hb hB hty hty2 hs9 hk (by decide) (by decide)) jm_X13_parsesMark jw_2420 rfl (by first | exact hm.1 | exact hm.2.1 _ _ rfl | assumption) rfl rfl rfl dX13_parsesCommand_196 rfl ?_
    refine jk_goto (q := 289) dX13_parsesCommand_199 rfl ?_
    exact jk_ret rfl dX13_parsesCommand_289 (by unfold md_cmd; dsimp only; first | (rw [if_pos (by assumption)]; exact jk_qr) | (rw [if_neg (by assumption), if_pos (by assumption)]; exact jk_qr) | (rw [if_neg (by assumption), if_neg (by assumption), if_pos (by assumption)]; exact jk_qr) | (rw [if_neg (by assumption), if_neg (by assumption), if_neg (by assumption), if_pos (by assumption)]; exact jk_qr) | (rw [if_neg (by assumption), if_neg (by assumption), if_neg (by assumption), if_neg (by assumption), if_pos (by assumption)]; exact jk_qr) | (rw [if_neg (by assumption), if_neg (by assumption), if_neg (by assumption), if_neg (by assumption), if_neg (by assumption), if_pos (by assumption)]; exact jk_qr) | (rw [if_neg (by assumption), if_neg (by assumption), if_neg (by assumption), if_neg (by assumption), if_neg (by assumption), if_neg (by assumption), if_pos (by assumption)]; exact jk_qr) | (rw [if_neg (by assumption), if_neg (by assumption), if_neg (by assumption), if_neg (by assumption), if_neg (by assumption), if_neg (by assumption), if_neg (by assumption), if_pos (by assumption)]; exact jk_qr) | (rw [if_neg (by assumption), if_neg (by assumption), if_neg (by assumption), if_neg (by assumption), if_neg (by assumption), if_neg (by assumption), if_neg (by assumption), if_neg (by assumption), if_pos (by assumption)]; exact jk_qr) | (rw [if_neg (by assumption), if_neg (by assumption), if_neg (by assumption), if_neg (by assumption), if_neg (by assumption), if_neg (by assumption), if_neg (by assumption), if_neg (by assumption), if_neg (by assumption)]; exact jk_qr))
  refine jk_caseC 102 (fun h3 => ?_) (fun h3 => ?_)
  · refine jk_tswIn (q := 132) (by decide) dX13_parsesCommand_23 (by decide) rfl rfl ?_
    have hs9 : md_sok ty (sp + 1) := (by have := hhe.2.2 (by omega); unfold md_sok; omega)
    refine jk_aload_n (q := 133) dX13_parsesCommand_132 rfl rfl ?_
    refine jk_iload_n (q := 134) dX13_parsesCommand_133 rfl rfl ?_
    refine jk_cV1v (q := 137) (c_X13_parsesF hm hb hB hty hty2 hs9 hk) jm_X13_parsesF jw_2408 rfl (by first | exact hm.1 | exact hm.2.1 _ _ rfl | assumption) rfl rfl rfl dX13_parsesCommand_134 rfl ?_
    refine jk_goto (q := 289) dX13_parsesCommand_137 rfl ?_
    exact jk_ret rfl dX13_parsesCommand_289 (by unfold md_cmd; dsimp only; first | (rw [if_pos (by assumption)]; exact jk_qr) | (rw [if_neg (by assumption), if_pos (by assumption)]; exact jk_qr) | (rw [if_neg (by assumption), if_neg (by assumption), if_pos (by assumption)]; exact jk_qr) | (rw [if_neg (by assumption), if_neg (by assumption), if_neg (by assumption), if_pos (by assumption)]; exact jk_qr) | (rw [if_neg (by assumption), if_neg (by assumption), if_neg (by assumption), if_neg (by assumption), if_pos (by assumption)]; exact jk_qr) | (rw [if_neg (by assumption), if_neg (by assumption), if_neg (by assumption), if_neg (by assumption), if_neg (by assumption), if_pos (by assumption)]; exact jk_qr) | (rw [if_neg (by assumption), if_neg (by assumption), if_neg (by assumption), if_neg (by assumption), if_neg (by assumption), if_neg (by assumption), if_pos (by assumption)]; exact jk_qr) | (rw [if_neg (by assumption), if_neg (by assumption), if_neg (by assumption), if_neg (by assumption), if_neg (by assumption), if_neg (by assumption), if_neg (by assumption), if_pos (by assumption)]; exact jk_qr) | (rw [if_neg (by assumption), if_neg (by assumption), if_neg (by assumption), if_neg (by assumption), if_neg (by assumption), if_neg (by assumption), if_neg (by assumption), if_neg (by assumption), if_pos (by assumption)]; exact jk_qr) | (rw [if_neg (by assumption), if_neg (by assumption), if_neg (by assumption), if_neg (by assumption), if_neg (by assumption), if_neg (by assumption), if_neg (by assumption), if_neg (by assumption), if_neg (by assumption)]; exact jk_qr))
  refine jk_caseC 105 (fun h4 => ?_) (fun h4 => ?_)
  · refine jk_tswIn (q := 202) (by decide) dX13_parsesCommand_23 (by decide) rfl rfl ?_
    have hs9 : md_sok ty (sp + 1) := (by have := hhe.2.2 (by omega); unfold md_sok; omega)
    refine jk_aload_n (q := 203) dX13_parsesCommand_202 rfl rfl ?_
    refine jk_iload_n (q := 204) dX13_parsesCommand_203 rfl rfl ?_
    refine jk_bipush (q := 206) (y := 110) dX13_parsesCommand_204 rfl (by decide) ?_
    refine jk_bipush (q := 208) (y := 99) dX13_parsesCommand_206 rfl (by decide) ?_
    refine jk_cV3v (q := 211) (c_X13_parsesMark hm hb hB hty hty2 hs9 hk (by decide) (by decide)) jm_X13_parsesMark jw_2420 rfl (by first | exact hm.1 | exact hm.2.1 _ _ rfl | assumption) rfl rfl rfl dX13_parsesCommand_208 rfl ?_
    refine jk_goto (q := 289) dX13_parsesCommand_211 rfl ?_
    exact jk_ret rfl dX13_parsesCommand_289 (by unfold md_cmd; dsimp only; first | (rw [if_pos (by assumption)]; exact jk_qr) | (rw [if_neg (by assumption), if_pos (by assumption)]; exact jk_qr) | (rw [if_neg (by assumption), if_neg (by assumption), if_pos (by assumption)]; exact jk_qr) | (rw [if_neg (by assumption), if_neg (by assumption), if_neg (by assumption), if_pos (by assumption)]; exact jk_qr) | (rw [if_neg (by assumption), if_neg (by assumption), if_neg (by assumption), if_neg (by assumption), if_pos (by assumption)]; exact jk_qr) | (rw [if_neg (by assumption), if_neg (by assumption), if_neg (by assumption), if_neg (by assumption), if_neg (by assumption), if_pos (by assumption)]; exact jk_qr) | (rw [if_neg (by assumption), if_neg (by assumption), if_neg (by assumption), if_neg (by assumption), if_neg (by assumption), if_neg (by assumption), if_pos (by assumption)]; exact jk_qr) | (rw [if_neg (by assumption), if_neg (by assumption), if_neg (by assumption), if_neg (by assumption), if_neg (by assumption), if_neg (by assumption), if_neg (by assumption), if_pos (by assumption)]; exact jk_qr) | (rw [if_neg (by assumption), if_neg (by assumption), if_neg (by assumption), if_neg (by assumption), if_neg (by assumption), if_neg (by assumption), if_neg (by assumption), if_neg (by assumption), if_pos (by assumption)]; exact jk_qr) | (rw [if_neg (by assumption), if_neg (by assumption), if_neg (by assumption), if_neg (by assumption), if_neg (by assumption), if_neg (by assumption), if_neg (by assumption), if_neg (by assumption), if_neg (by assumption)]; exact jk_qr))
  refine jk_caseC 108 (fun h5 => ?_) (fun h5 => ?_)
  · refine jk_tswIn (q := 140) (by decide) dX13_parsesCommand_23 (by decide) rfl rfl ?_
    have hs9 : md_sok ty (sp + 1) := (by have := hhe.2.2 (by omega); unfold md_sok; omega)
    refine jk_aload_n (q := 141) dX13_parsesCommand_140 rfl rfl ?_
    refine jk_iload_n (q := 142) dX13_parsesCommand_141 rfl rfl ?_
    refine jk_cV1v (q := 145) (c_X13_parsesLine hm hb hB hty hty2 hs9 hk) jm_X13_parsesLine jw_2416 rfl (by first | exact hm.1 | exact hm.2.1 _ _ rfl | assumption) rfl rfl rfl dX13_parsesCommand_142 rfl ?_
    refine jk_goto (q := 289) dX13_parsesCommand_145 rfl ?_
    exact jk_ret rfl dX13_parsesCommand_289 (by unfold md_cmd; dsimp only; first | (rw [if_pos (by assumption)]; exact jk_qr) | (rw [if_neg (by assumption), if_pos (by assumption)]; exact jk_qr) | (rw [if_neg (by assumption), if_neg (by assumption), if_pos (by assumption)]; exact jk_qr) | (rw [if_neg (by assumption), if_neg (by assumption), if_neg (by assumption), if_pos (by assumption)]; exact jk_qr) | (rw [if_neg (by assumption), if_neg (by assumption), if_neg (by assumption), if_neg (by assumption), if_pos (by assumption)]; exact jk_qr) | (rw [if_neg (by assumption), if_neg (by assumption), if_neg (by assumption), if_neg (by assumption), if_neg (by assumption), if_pos (by assumption)]; exact jk_qr) | (rw [if_neg (by assumption), if_neg (by assumption), if_neg (by assumption), if_neg (by assumption), if_neg (by assumption), if_neg (by assumption), if_pos (by assumption)]; exact jk_qr) | (rw [if_neg (by assumption), if_neg (by assumption), if_neg (by assumption), if_neg (by assumption), if_neg (by assumption), if_neg (by assumption), if_neg (by assumption), if_pos (by assumption)]; exact jk_qr) | (rw [if_neg (by assumption), if_neg (by assumption), if_neg (by assumption), if_neg (by assumption), if_neg (by assumption), if_neg (by assumption), if_neg (by assumption), if_neg (by assumption), if_pos (by assumption)]; exact jk_qr) | (rw [if_neg (by assumption), if_neg (by assumption), if_neg (by assumption), if_neg (by assumption), if_neg (by assumption), if_neg (by assumption), if_neg (by assumption), if_neg (by assumption), if_neg (by assumption)]; exact jk_qr))
  refine jk_caseC 112 (fun h6 => ?_) (fun h6 => ?_)
  · refine jk_tswIn (q := 124) (by decide) dX13_parsesCommand_23 (by decide) rfl rfl ?_
    have hs9 : md_sok ty (sp + 1) := (by have := hhe.2.2 (by omega); unfold md_sok; omega)
    refine jk_aload_n (q := 125) dX13_parsesCommand_124 rfl rfl ?_
    refine jk_iload_n (q := 126) dX13_parsesCommand_125 rfl rfl ?_
    refine jk_cV1v (q := 129) (c_X13_parsesP hm hb hB hty hty2 hs9 hk) jm_X13_parsesP jw_2388 rfl (by first | exact hm.1 | exact hm.2.1 _ _ rfl | assumption) rfl rfl rfl dX13_parsesCommand_126 rfl ?_
    refine jk_goto (q := 289) dX13_parsesCommand_129 rfl ?_
    exact jk_ret rfl dX13_parsesCommand_289 (by unfold md_cmd; dsimp only; first | (rw [if_pos (by assumption)]; exact jk_qr) | (rw [if_neg (by assumption), if_pos (by assumption)]; exact jk_qr) | (rw [if_neg (by assumption), if_neg (by assumption), if_pos (by assumption)]; exact jk_qr) | (rw [if_neg (by assumption), if_neg (by assumption), if_neg (by assumption), if_pos (by assumption)]; exact jk_qr) | (rw [if_neg (by assumption), if_neg (by assumption), if_neg (by assumption), if_neg (by assumption), if_pos (by assumption)]; exact jk_qr) | (rw [if_neg (by assumption), if_neg (by assumption), if_neg (by assumption), if_neg (by assumption), if_neg (by assumption), if_pos (by assumption)]; exact jk_qr) | (rw [if_neg (by assumption), if_neg (by assumption), if_neg (by assumption), if_neg (by assumption), if_neg (by assumption), if_neg (by assumption), if_pos (by assumption)]; exact jk_qr) | (rw [if_neg (by assumption), if_neg (by assumption), if_neg (by assumption), if_neg (by assumption), if_neg (by assumption), if_neg (by assumption), if_neg (by assumption), if_pos (by assumption)]; exact jk_qr) | (rw [if_neg (by assumption), if_neg (by assumption), if_neg (by assumption), if_neg (by assumption), if_neg (by assumption), if_neg (by assumption), if_neg (by assumption), if_neg (by assumption), if_pos (by assumption)]; exact jk_qr) | (rw [if_neg (by assumption), if_neg (by assumption), if_neg (by assumption), if_neg (by assumption), if_neg (by assumption), if_neg (by assumption), if_neg (by assumption), if_neg (by assumption), if_neg (by assumption)]; exact jk_qr))
  refine jk_caseC 114 (fun h7 => ?_) (fun h7 => ?_)
  · refine jk_tswIn (q := 222) (by decide) dX13_parsesCommand_23 (by decide) rfl rfl ?_
    have hs9 : md_sok ty (sp + 1) := (by have := hhe.2.2 (by omega); unfold md_sok; omega)
    refine jk_aload_n (q := 223) dX13_parsesCommand_222 rfl rfl ?_
    refine jk_bipush (q := 225) (y := 101) dX13_parsesCommand_223 rfl (by decide) ?_
    refine jk_bipush (q := 227) (y := 115) dX13_parsesCommand_225 rfl (by decide) ?_
    refine jk_bipush (q := 229) (y := 101) dX13_parsesCommand_227 rfl (by decide) ?_
    refine jk_cV3v (q := 232) (c_X13_needsThree hm hb hB hty hty2 hs9 (by decide) (by decide) (by decide)) jm_X13_needsThree jw_2392 rfl (by first | exact hm.1 | exact hm.2.1 _ _ rfl | assumption) rfl rfl rfl dX13_parsesCommand_229 rfl ?_
    refine jk_aload_n (q := 233) dX13_parsesCommand_232 rfl rfl ?_
    refine jk_bipush (q := 235) (y := 116) dX13_parsesCommand_233 rfl (by decide) ?_
    refine jk_cV1v (q := 238) (c_X13_needs hm hb hB hty hty2 (md_n3_ok hB hty2 (by decide) (by decide) (by decide) (s := (sp + 1, w)) hs9) (by decide)) jm_X13_needs jw_2396 rfl (by first | exact hm.1 | exact hm.2.1 _ _ rfl | assumption) rfl rfl rfl dX13_parsesCommand_235 rfl ?_
    refine jk_goto (q := 289) dX13_parsesCommand_238 rfl ?_
    exact jk_ret rfl dX13_parsesCommand_289 (by unfold md_cmd; dsimp only; first | (rw [if_pos (by assumption)]; exact jk_qr) | (rw [if_neg (by assumption), if_pos (by assumption)]; exact jk_qr) | (rw [if_neg (by assumption), if_neg (by assumption), if_pos (by assumption)]; exact jk_qr) | (rw [if_neg (by assumption), if_neg (by assumption), if_neg (by assumption), if_pos (by assumption)]; exact jk_qr) | (rw [if_neg (by assumption), if_neg (by assumption), if_neg (by assumption), if_neg (by assumption), if_pos (by assumption)]; exact jk_qr) | (rw [if_neg (by assumption), if_neg (by assumption), if_neg (by assumption), if_neg (by assumption), if_neg (by assumption), if_pos (by assumption)]; exact jk_qr) | (rw [if_neg (by assumption), if_neg (by assumption), if_neg (by assumption), if_neg (by assumption), if_neg (by assumption), if_neg (by assumption), if_pos (by assumption)]; exact jk_qr) | (rw [if_neg (by assumption), if_neg (by assumption), if_neg (by assumption), if_neg (by assumption), if_neg (by assumption), if_neg (by assumption), if_neg (by assumption), if_pos (by assumption)]; exact jk_qr) | (rw [if_neg (by assumption), if_neg (by assumption), if_neg (by assumption), if_neg (by assumption), if_neg (by assumption), if_neg (by assumption), if_neg (by assumption), if_neg (by assumption), if_pos (by assumption)]; exact jk_qr) | (rw [if_neg (by assumption), if_neg (by assumption), if_neg (by assumption), if_neg (by assumption), if_neg (by assumption), if_neg (by assumption), if_neg (by assumption), if_neg (by assumption), if_neg (by assumption)]; exact jk_qr))
  refine jk_caseC 115 (fun h8 => ?_) (fun h8 => ?_)
  · refine jk_tswIn (q := 214) (by decide) dX13_parsesCommand_23 (by decide) rfl rfl ?_
    have hs9 : md_sok ty (sp + 1) := (by have := hhe.2.2 (by omega); unfold md_sok; omega)
    refine jk_aload_n (q := 215) dX13_parsesCommand_214 rfl rfl ?_
    refine jk_iload_n (q := 216) dX13_parsesCommand_215 rfl rfl ?_
    refine jk_cV1v (q := 219) (c_X13_parsesS hm hb hB hty hty2 hs9 hk) jm_X13_parsesS jw_2424 rfl (by first | exact hm.1 | exact hm.2.1 _ _ rfl | assumption) rfl rfl rfl dX13_parsesCommand_216 rfl ?_
    refine jk_goto (q := 289) dX13_parsesCommand_219 rfl ?_
    exact jk_ret rfl dX13_parsesCommand_289 (by unfold md_cmd; dsimp only; first | (rw [if_pos (by assumption)]; exact jk_qr) | (rw [if_neg (by assumption), if_pos (by assumption)]; exact jk_qr) | (rw [if_neg (by assumption), if_neg (by assumption), if_pos (by assumption)]; exact jk_qr) | (rw [if_neg (by assumption), if_neg (by assumption), if_neg (by assumption), if_pos (by assumption)]; exact jk_qr) | (rw [if_neg (by assumption), if_neg (by assumption), if_neg (by assumption), if_neg (by assumption), if_pos (by assumption)]; exact jk_qr) | (rw [if_neg (by assumption), if_neg (by assumption), if_neg (by assumption), if_neg (by assumption), if_neg (by assumption), if_pos (by assumption)]; exact jk_qr) | (rw [if_neg (by assumption), if_neg (by assumption), if_neg (by assumption), if_neg (by assumption), if_neg (by assumption), if_neg (by assumption), if_pos (by assumption)]; exact jk_qr) | (rw [if_neg (by assumption), if_neg (by assumption), if_neg (by assumption), if_neg (by assumption), if_neg (by assumption), if_neg (by assumption), if_neg (by assumption), if_pos (by assumption)]; exact jk_qr) | (rw [if_neg (by assumption), if_neg (by assumption), if_neg (by assumption), if_neg (by assumption), if_neg (by assumption), if_neg (by assumption), if_neg (by assumption), if_neg (by assumption), if_pos (by assumption)]; exact jk_qr) | (rw [if_neg (by assumption), if_neg (by assumption), if_neg (by assumption), if_neg (by assumption), if_neg (by assumption), if_neg (by assumption), if_neg (by assumption), if_neg (by assumption), if_neg (by assumption)]; exact jk_qr))
  refine jk_caseC 119 (fun h9 => ?_) (fun h9 => ?_)
  · refine jk_tswIn (q := 241) (by decide) dX13_parsesCommand_23 (by decide) rfl rfl ?_
    have hs9 : md_sok ty (sp + 1) := (by have := hhe.2.2 (by omega); unfold md_sok; omega)
    refine jk_aload_n (q := 242) dX13_parsesCommand_241 rfl rfl ?_
    refine jk_bipush (q := 244) (y := 97) dX13_parsesCommand_242 rfl (by decide) ?_
    refine jk_bipush (q := 246) (y := 116) dX13_parsesCommand_244 rfl (by decide) ?_
    refine jk_bipush (q := 248) (y := 101) dX13_parsesCommand_246 rfl (by decide) ?_
    refine jk_cV3v (q := 251) (c_X13_needsThree hm hb hB hty hty2 hs9 (by decide) (by decide) (by decide)) jm_X13_needsThree jw_2392 rfl (by first | exact hm.1 | exact hm.2.1 _ _ rfl | assumption) rfl rfl rfl dX13_parsesCommand_248 rfl ?_
    refine jk_aload_n (q := 252) dX13_parsesCommand_251 rfl rfl ?_
    refine jk_bipush (q := 254) (y := 114) dX13_parsesCommand_252 rfl (by decide) ?_
    refine jk_cV1v (q := 257) (c_X13_needs hm hb hB hty hty2 (md_n3_ok hB hty2 (by decide) (by decide) (by decide) (s := (sp + 1, w)) hs9) (by decide)) jm_X13_needs jw_2396 rfl (by first | exact hm.1 | exact hm.2.1 _ _ rfl | assumption) rfl rfl rfl dX13_parsesCommand_254 rfl ?_
    refine jk_aload_n (q := 258) dX13_parsesCommand_257 rfl rfl ?_
    refine jk_getA (q := 261) (k := 13) 22 22 rfl (by first | exact hm.1 | exact hm.2.1 _ _ rfl | assumption) (by first | exact hm.2.2 _ _ rfl | assumption) rfl rfl jw_1870 dX13_parsesCommand_258 rfl ?_
    refine jk_iload_n (q := 262) dX13_parsesCommand_261 rfl rfl ?_
    refine jk_iconst (q := 263) dX13_parsesCommand_262 rfl ?_
    refine jk_iadd (q := 264) dX13_parsesCommand_263 rfl ?_
    refine jk_aload_n (q := 265) dX13_parsesCommand_264 rfl rfl ?_
    refine jk_bipush (q := 267) (y := 32) dX13_parsesCommand_265 rfl (by decide) ?_
    refine jk_cV1p (q := 270) (c_X13_valueAfter hm hb hB hty hty2 (md_nd_ok hB hty2 (by decide) (s := (md_n3 Bf ty 97 116 101 (sp + 1, w))) (md_n3_ok hB hty2 (by decide) (by decide) (by decide) (s := (sp + 1, w)) hs9)) (by decide)) jm_X13_valueAfter jw_2412 rfl (by first | exact hm.1 | exact hm.2.1 _ _ rfl | assumption) rfl rfl rfl dX13_parsesCommand_267 rfl ?_
    refine jk_iastR (q := 271) (by first | exact hm.1 | exact hm.2.1 _ _ rfl | assumption) (by first | exact jk_row_same _ _ _ | exact (md_pS_m _ _ _ _ _ _) | exact (md_pS_p _ _ _ _ _ _) | exact ((md_pS_ne _ _ _ _ _ _ (by omega) (by omega)).trans hb) | (rewrite [jk_row_ne _ _ (by omega)]; first | exact jk_row_same _ _ _ | exact (md_pS_m _ _ _ _ _ _) | exact (md_pS_p _ _ _ _ _ _) | exact ((md_pS_ne _ _ _ _ _ _ (by omega) (by omega)).trans hb) | (rewrite [jk_row_ne _ _ (by omega)]; first | exact jk_row_same _ _ _ | exact (md_pS_m _ _ _ _ _ _) | exact (md_pS_p _ _ _ _ _ _) | exact ((md_pS_ne _ _ _ _ _ _ (by omega) (by omega)).trans hb) | (rewrite [jk_row_ne _ _ (by omega)]; first | exact jk_row_same _ _ _ | exact (md_pS_m _ _ _ _ _ _) | exact (md_pS_p _ _ _ _ _ _) | exact ((md_pS_ne _ _ _ _ _ _ (by omega) (by omega)).trans hb) | (rewrite [jk_row_ne _ _ (by omega)]; first | exact (md_pS_m _ _ _ _ _ _) | exact (md_pS_p _ _ _ _ _ _) | exact ((md_pS_ne _ _ _ _ _ _ (by omega) (by omega)).trans hb) | rfl))))) (by first | decide | omega | exact jB_01 _) dX13_parsesCommand_270 rfl ?_
    rw [md_pS_P]
    refine jk_goto (q := 289) dX13_parsesCommand_271 rfl ?_
    exact jk_ret rfl dX13_parsesCommand_289 (by unfold md_cmd; dsimp only; first | (rw [if_pos (by assumption)]; exact jk_qr) | (rw [if_neg (by assumption), if_pos (by assumption)]; exact jk_qr) | (rw [if_neg (by assumption), if_neg (by assumption), if_pos (by assumption)]; exact jk_qr) | (rw [if_neg (by assumption), if_neg (by assumption), if_neg (by assumption), if_pos (by assumption)]; exact jk_qr) | (rw [if_neg (by assumption), if_neg (by assumption), if_neg (by assumption), if_neg (by assumption), if_pos (by assumption)]; exact jk_qr) | (rw [if_neg (by assumption), if_neg (by assumption), if_neg (by assumption), if_neg (by assumption), if_neg (by assumption), if_pos (by assumption)]; exact jk_qr) | (rw [if_neg (by assumption), if_neg (by assumption), if_neg (by assumption), if_neg (by assumption), if_neg (by assumption), if_neg (by assumption), if_pos (by assumption)]; exact jk_qr) | (rw [if_neg (by assumption), if_neg (by assumption), if_neg (by assumption), if_neg (by assumption), if_neg (by assumption), if_neg (by assumption), if_neg (by assumption), if_pos (by assumption)]; exact jk_qr) | (rw [if_neg (by assumption), if_neg (by assumption), if_neg (by assumption), if_neg (by assumption), if_neg (by assumption), if_neg (by assumption), if_neg (by assumption), if_neg (by assumption), if_pos (by assumption)]; exact jk_qr) | (rw [if_neg (by assumption), if_neg (by assumption), if_neg (by assumption), if_neg (by assumption), if_neg (by assumption), if_neg (by assumption), if_neg (by assumption), if_neg (by assumption), if_neg (by assumption)]; exact jk_qr))
  refine jk_tswD (q := 274) [98, 101, 102, 105, 108, 112, 114, 115, 119] (by first | decide | omega | exact jB_01 _) dX13_parsesCommand_23 (by decide) (by decide) (by simp only [List.contains_cons, List.contains_nil, Bool.or_false, Bool.or_eq_false_iff, beq_eq_false_iff_ne, ne_eq]; first | (exact ⟨by assumption, by assumption, by assumption, by assumption, by assumption, by assumption, by assumption, by assumption, by assumption⟩) | assumption | (refine ⟨?_, ?_, ?_, ?_, ?_, ?_, ?_, ?_, ?_⟩ <;> assumption)) rfl ?_
  refine jk_aload_n (q := 275) dX13_parsesCommand_274 rfl rfl ?_
  refine jk_iconst (q := 276) dX13_parsesCommand_275 rfl ?_
  refine jk_putZR (q := 279) (k := 13) 21 21 rfl (by first | exact hm.1 | exact hm.2.1 _ _ rfl | assumption) (by first | exact jk_row_same _ _ _ | exact (md_pS_m _ _ _ _ _ _) | exact (md_pS_p _ _ _ _ _ _) | exact ((md_pS_ne _ _ _ _ _ _ (by omega) (by omega)).trans hb) | (rewrite [jk_row_ne _ _ (by omega)]; first | exact jk_row_same _ _ _ | exact (md_pS_m _ _ _ _ _ _) | exact (md_pS_p _ _ _ _ _ _) | exact ((md_pS_ne _ _ _ _ _ _ (by omega) (by omega)).trans hb) | (rewrite [jk_row_ne _ _ (by omega)]; first | exact jk_row_same _ _ _ | exact (md_pS_m _ _ _ _ _ _) | exact (md_pS_p _ _ _ _ _ _) | exact ((md_pS_ne _ _ _ _ _ _ (by omega) (by omega)).trans hb) | (rewrite [jk_row_ne _ _ (by omega)]; first | exact jk_row_same _ _ _ | exact (md_pS_m _ _ _ _ _ _) | exact (md_pS_p _ _ _ _ _ _) | exact ((md_pS_ne _ _ _ _ _ _ (by omega) (by omega)).trans hb) | (rewrite [jk_row_ne _ _ (by omega)]; first | exact (md_pS_m _ _ _ _ _ _) | exact (md_pS_p _ _ _ _ _ _) | exact ((md_pS_ne _ _ _ _ _ _ (by omega) (by omega)).trans hb) | rfl))))) rfl rfl rfl (by first | decide | omega | exact jB_01 _) jw_1869 dX13_parsesCommand_276 rfl ?_
  rw [← jB_t, md_pS_w]
  refine jk_aload_n (q := 280) dX13_parsesCommand_279 rfl rfl ?_
  refine jk_dup (q := 281) dX13_parsesCommand_280 rfl rfl ?_
  refine jk_getIR (q := 284) (k := 13) 20 20 rfl (by first | exact hm.1 | exact hm.2.1 _ _ rfl | assumption) (by first | exact jk_row_same _ _ _ | exact (md_pS_m _ _ _ _ _ _) | exact (md_pS_p _ _ _ _ _ _) | exact ((md_pS_ne _ _ _ _ _ _ (by omega) (by omega)).trans hb) | (rewrite [jk_row_ne _ _ (by omega)]; first | exact jk_row_same _ _ _ | exact (md_pS_m _ _ _ _ _ _) | exact (md_pS_p _ _ _ _ _ _) | exact ((md_pS_ne _ _ _ _ _ _ (by omega) (by omega)).trans hb) | (rewrite [jk_row_ne _ _ (by omega)]; first | exact jk_row_same _ _ _ | exact (md_pS_m _ _ _ _ _ _) | exact (md_pS_p _ _ _ _ _ _) | exact ((md_pS_ne _ _ _ _ _ _ (by omega) (by omega)).trans hb) | (rewrite [jk_row_ne _ _ (by omega)]; first | exact jk_row_same _ _ _ | exact (md_pS_m _ _ _ _ _ _) | exact (md_pS_p _ _ _ _ _ _) | exact ((md_pS_ne _ _ _ _ _ _ (by omega) (by omega)).trans hb) | (rewrite [jk_row_ne _ _ (by omega)]; first | exact (md_pS_m _ _ _ _ _ _) | exact (md_pS_p _ _ _ _ _ _) | exact ((md_pS_ne _ _ _ _ _ _ (by omega) (by omega)).trans hb) | rfl))))) rfl rfl jw_1868 dX13_parsesCommand_281 rfl ?_
  rw [md_f20]
  refine jk_iconst (q := 285) dX13_parsesCommand_284 rfl ?_
  refine jk_isub (q := 286) dX13_parsesCommand_285 rfl ?_
  refine jk_putIR (q := 289) (k := 13) 20 20 rfl (by first | exact hm.1 | exact hm.2.1 _ _ rfl | assumption) (by first | exact jk_row_same _ _ _ | exact (md_pS_m _ _ _ _ _ _) | exact (md_pS_p _ _ _ _ _ _) | exact ((md_pS_ne _ _ _ _ _ _ (by omega) (by omega)).trans hb) | (rewrite [jk_row_ne _ _ (by omega)]; first | exact jk_row_same _ _ _ | exact (md_pS_m _ _ _ _ _ _) | exact (md_pS_p _ _ _ _ _ _) | exact ((md_pS_ne _ _ _ _ _ _ (by omega) (by omega)).trans hb) | (rewrite [jk_row_ne _ _ (by omega)]; first | exact jk_row_same _ _ _ | exact (md_pS_m _ _ _ _ _ _) | exact (md_pS_p _ _ _ _ _ _) | exact ((md_pS_ne _ _ _ _ _ _ (by omega) (by omega)).trans hb) | (rewrite [jk_row_ne _ _ (by omega)]; first | exact jk_row_same _ _ _ | exact (md_pS_m _ _ _ _ _ _) | exact (md_pS_p _ _ _ _ _ _) | exact ((md_pS_ne _ _ _ _ _ _ (by omega) (by omega)).trans hb) | (rewrite [jk_row_ne _ _ (by omega)]; first | exact (md_pS_m _ _ _ _ _ _) | exact (md_pS_p _ _ _ _ _ _) | exact ((md_pS_ne _ _ _ _ _ _ (by omega) (by omega)).trans hb) | rfl))))) rfl rfl rfl jw_1868 dX13_parsesCommand_286 rfl ?_
  rw [md_pS_sp]
  exact jk_ret rfl dX13_parsesCommand_289 (by unfold md_cmd; dsimp only; first | (rw [if_pos (by assumption)]; exact jk_qr) | (rw [if_neg (by assumption), if_pos (by assumption)]; exact jk_qr) | (rw [if_neg (by assumption), if_neg (by assumption), if_pos (by assumption)]; exact jk_qr) | (rw [if_neg (by assumption), if_neg (by assumption), if_neg (by assumption), if_pos (by assumption)]; exact jk_qr) | (rw [if_neg (by assumption), if_neg (by assumption), if_neg (by assumption), if_neg (by assumption), if_pos (by assumption)]; exact jk_qr) | (rw [if_neg (by assumption), if_neg (by assumption), if_neg (by assumption), if_neg (by assumption), if_neg (by assumption), if_pos (by assumption)]; exact jk_qr) | (rw [if_neg (by assumption), if_neg (by assumption), if_neg (by assumption), if_neg (by assumption), if_neg (by assumption), if_neg (by assumption), if_pos (by assumption)]; exact jk_qr) | (rw [if_neg (by assumption), if_neg (by assumption), if_neg (by assumption), if_neg (by assumption), if_neg (by assumption), if_neg (by assumption), if_neg (by assumption), if_pos (by assumption)]; exact jk_qr) | (rw [if_neg (by assumption), if_neg (by assumption), if_neg (by assumption), if_neg (by assumption), if_neg (by assumption), if_neg (by assumption), if_neg (by assumption), if_neg (by assumption), if_pos (by assumption)]; exact jk_qr) | (rw [if_neg (by assumption), if_neg (by assumption), if_neg (by assumption), if_neg (by assumption), if_neg (by assumption), if_neg (by assumption), if_neg (by assumption), if_neg (by assumption), if_neg (by assumption)]; exact jk_qr))
end MD23
