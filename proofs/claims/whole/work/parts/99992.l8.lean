section L8
section JL8
variable {G : jk_G} {M : jk_M} {pc q : Nat} {ls : List (Option Value)} {st : List Value} {n : Nat} {t : jk_T} {σ : jk_I} {ρ : jk_P} {rc rs : Nat} {Q : jk_Q} {X : jk_X}
theorem jk_dstore7 {a0 a1 a2 a3 a4 a5 a6 a7 a8 : Option Value} {x : UInt64} (hd : decode (jk_cc M) pc = .ok (.dstore 7, 2)) (hp : pc + 2 = q) (hn : Nat.blt 8 (jk_nL M) = true) (hc : jk_c1 a6 = true) (k : jk_J G M q [a0, a1, a2, a3, a4, a5, a6, some (.double x), none] st n t σ ρ rc rs Q X) : jk_J G M pc [a0, a1, a2, a3, a4, a5, a6, a7, a8] (.double x :: st) n t σ ρ rc rs Q X :=
  jk_dstore_g (i := 7) hd hp (Nat.blt_eq.mp hn) (jk_ccS rfl hc) k
theorem jk_daldR {a len : Nat} {x : Int} {f : Int → Int} (ht : t a = some (.inl (.double, len))) (hrow : σ a = f) (hx : 0 ≤ x ∧ x < (len : Int)) (hd : decode (jk_cc M) pc = .ok (.daload, 1)) (hp : pc + 1 = q) (kk : jk_J G M q ls (.double (UInt64.ofNat (f x).toNat) :: st) n t σ ρ rc rs Q X) : jk_J G M pc ls (jI x :: .ref a :: st) n t σ ρ rc rs Q X := by
  subst hrow; exact jk_dald ht hx hd hp kk
theorem jk_dcmp0 {x : UInt64} {op : CmpOp} (h : Op.cmpValue (FP.dcmp x x) op = Int32.ofInt 0) (hd : decode (jk_cc M) pc = .ok (.dcmp op, 1)) (hp : pc + 1 = q) (k : jk_J G M q ls (jI 0 :: st) n t σ ρ rc rs Q X) : jk_J G M pc ls (.double x :: .double x :: st) n t σ ρ rc rs Q X := by
  subst hp
  exact jk_pure (fun p e R s m args below meth c H locs cells slots ls' Qf hx hb kk => lv_dcmp hx hb hd (by rw [h]; exact kk)) k
end JL8
def md_dz (s c : Nat) : Bool := Op.cmpValue (FP.dcmp (FP.ddiv (FP.i2d (Int32.ofInt (s : Int))) (FP.i2d (Int32.ofInt (c : Int)))) (FP.ddiv (FP.i2d (Int32.ofInt (s : Int))) (FP.i2d (Int32.ofInt (c : Int))))) .l == Int32.ofInt 0
theorem md_dz_all : ((List.range 801).all fun s => (List.range 17).all fun c => c == 0 || md_dz s c) = true := by decide +kernel
def md_fz (s c : Nat) : Bool := Op.cmpValue (FP.dcmp (FP.f2d (FP.fdiv (FP.i2f (Int32.ofInt (s : Int))) (FP.i2f (Int32.ofInt (c : Int))))) (FP.f2d (FP.fdiv (FP.i2f (Int32.ofInt (s : Int))) (FP.i2f (Int32.ofInt (c : Int)))))) .l == Int32.ofInt 0 && decide (FP.f2d (FP.fdiv (FP.i2f (Int32.ofInt (s : Int))) (FP.i2f (Int32.ofInt (c : Int)))) &&& 0x7fffffffffffffff ≤ 0x7ff0000000000000)
theorem md_fz_all : ((List.range 17).all fun s => (List.range 17).all fun c => c == 0 || md_fz s c) = true := by decide +kernel
theorem md_dz_ok {s c : Int} (hs : 0 ≤ s ∧ s ≤ 800) (hc : 1 ≤ c ∧ c ≤ 16) : Op.cmpValue (FP.dcmp (FP.ddiv (FP.i2d (Int32.ofInt s)) (FP.i2d (Int32.ofInt c))) (FP.ddiv (FP.i2d (Int32.ofInt s)) (FP.i2d (Int32.ofInt c)))) .l = Int32.ofInt 0 := by
  have h := md_fp_at (s := s.toNat) (c := c.toNat) md_dz_all (by omega) (by omega) (by omega)
  unfold md_dz at h
  rw [show ((s.toNat : Nat) : Int) = s by omega, show ((c.toNat : Nat) : Int) = c by omega] at h
  exact beq_iff_eq.mp h
theorem md_fz_ok {s c : Int} (hs : 0 ≤ s ∧ s ≤ 16) (hc : 1 ≤ c ∧ c ≤ 16) : Op.cmpValue (FP.dcmp (FP.f2d (FP.fdiv (FP.i2f (Int32.ofInt s)) (FP.i2f (Int32.ofInt c)))) (FP.f2d (FP.fdiv (FP.i2f (Int32.ofInt s)) (FP.i2f (Int32.ofInt c))))) .l = Int32.ofInt 0 ∧ vf_n64 (FP.f2d (FP.fdiv (FP.i2f (Int32.ofInt s)) (FP.i2f (Int32.ofInt c)))) := by
  have h := md_fp_at (s := s.toNat) (c := c.toNat) md_fz_all (by omega) (by omega) (by omega)
  unfold md_fz at h
  rw [show ((s.toNat : Nat) : Int) = s by omega, show ((c.toNat : Nat) : Int) = c by omega] at h
  obtain ⟨h1, h2⟩ := (Bool.and_eq_true _ _).mp h
  exact ⟨beq_iff_eq.mp h1, (of_decide_eq_true h2 : _ &&& _ ≤ _)⟩
theorem f2d_0 : vf_n64 (FP.f2d FP.fconst0) := (by decide : _ &&& _ ≤ _)
theorem md_ml_v {B : Int} {g : Int → Int} (hi : md_inv B g) : ∃ y : UInt64, (md_q_ml g).2 = .double y ∧ ((md_q_ml g).1 = 0 ∨ (md_q_ml g).1 = 1) ∧ ((md_q_ml g).1 = 0 → Op.cmpValue (FP.dcmp y y) .l = Int32.ofInt 0) := by
  have hs := md_lsum_bd hi
  have hg := md_goods_bd hi
  unfold md_q_ml
  split
  · exact ⟨_, rfl, Or.inr rfl, fun h => absurd h (by decide)⟩
  · exact ⟨_, rfl, Or.inl rfl, fun _ => md_dz_ok ⟨by omega, by omega⟩ ⟨by omega, by omega⟩⟩
theorem md_sr_v {B : Int} {g : Int → Int} (hi : md_inv B g) : ∃ y : UInt32, (md_q_sr g).2 = .float y ∧ ((md_q_sr g).1 = 0 ∨ (md_q_sr g).1 = 1) ∧ vf_n64 (FP.f2d y) ∧ ((md_q_sr g).1 = 0 → Op.cmpValue (FP.dcmp (FP.f2d y) (FP.f2d y)) .l = Int32.ofInt 0) := by
  have i1 := hi.2.1
  have hg := md_goods_bd hi
  unfold md_q_sr
  split
  · exact ⟨_, rfl, Or.inr rfl, f2d_0, fun h => absurd h (by decide)⟩
  · have h := md_fz_ok (s := md_goods g) (c := g 1) ⟨by omega, by omega⟩ ⟨by omega, by omega⟩
    exact ⟨_, rfl, Or.inl rfl, h.2, fun _ => h.1⟩
/-- what is in the double's row -/
def ld_r (d : Nat) (Y : UInt64) (σ : jk_I) : Prop := UInt64.ofNat (σ d 0).toNat = Y
def lc_D (G : jk_G) (mc ms : Nat) (x m o d k : Nat) (n : Nat) (t : jk_T) (σ : jk_I) (ρ : jk_P) : Prop :=
  ∃ P1, jk_KH G yL_meanLength mL_meanLength [(0, 7, 10, 152)] mc ms [.ref x, .ref d] n t σ ρ P1 jk_no ∧ ∀ v' n' t' σ' ρ', P1 v' n' t' σ' ρ' → ∃ c1, v' = some (jI c1) ∧ jk_in c1 ∧ t' m = some (.inr 13) ∧ ∃ P2, jk_K G yX13_meanLength mX13_meanLength 0 0 [.ref m] n' t' σ' ρ' P2 jk_no ∧ ∀ w n2 t2 σ2 ρ2, P2 w n2 t2 σ2 ρ2 → ∃ y : UInt64, w = some (.double y) ∧ (∃ O, md_at t2 ρ2 m ∧ σ2 m = O ∧ O 12 = c1) ∧ t2 d = some (.inl (.double, 1)) ∧ (c1 = 0 → ld_r d y σ2 ∧ Op.cmpValue (FP.dcmp y y) .l = Int32.ofInt 0) ∧ lr x m o d (k + 1) n2 t2 σ2 ρ2
def lc_E (G : jk_G) (mc ms : Nat) (x m o d k : Nat) (n : Nat) (t : jk_T) (σ : jk_I) (ρ : jk_P) : Prop :=
  ∃ P1, jk_KH G yL_usableShare mL_usableShare [(0, 8, 11, 152)] mc ms [.ref x, .ref d] n t σ ρ P1 jk_no ∧ ∀ v' n' t' σ' ρ', P1 v' n' t' σ' ρ' → ∃ c1, v' = some (jI c1) ∧ jk_in c1 ∧ t' m = some (.inr 13) ∧ ∃ P2, jk_K G yX13_usableShare mX13_usableShare 0 0 [.ref m] n' t' σ' ρ' P2 jk_no ∧ ∀ w n2 t2 σ2 ρ2, P2 w n2 t2 σ2 ρ2 → ∃ y : UInt32, w = some (.float y) ∧ (∃ O, md_at t2 ρ2 m ∧ σ2 m = O ∧ O 12 = c1) ∧ t2 d = some (.inl (.double, 1)) ∧ vf_n64 (FP.f2d y) ∧ (c1 = 0 → ld_r d (FP.f2d y) σ2 ∧ Op.cmpValue (FP.dcmp (FP.f2d y) (FP.f2d y)) .l = Int32.ofInt 0) ∧ lr x m o d (k + 1) n2 t2 σ2 ρ2
theorem u64_of (y : UInt64) : UInt64.ofNat ((y.toNat : Int)).toNat = y := by
  rw [Int.toNat_natCast]
  exact UInt64.ofNat_toNat

theorem lw_50 {G : jk_G} {n : Nat} {t : jk_T} {σ : jk_I} {ρ : jk_P} {x m o d k rc rs mc ms : Nat} (hmc : mc ≤ 14) (hms : ms ≤ 420) (hrc : 14 ≤ rc) (hrs : 420 ≤ rs) (hF : lc_D G mc ms x m o d k n t σ ρ) (hc : ∀ n' t' σ' ρ', lr x m o d (k + 1) n' t' σ' ρ' → jk_J G mL_law 3459 [some (.ref 63), some (.ref x), some (.ref m), some (.ref o), some (.ref d), some (jI (5 * (k : Int))), none, none, none] [] n' t' σ' ρ' (rc - 14) (rs - 420) lq_Q jk_no) : jk_J G mL_law 2856 [some (.ref 63), some (.ref x), some (.ref m), some (.ref o), some (.ref d), some (jI (5 * (k : Int))), none, none, none] [] n t σ ρ rc rs lq_Q jk_no := by
  obtain ⟨P1, K1, hP1⟩ := hF
  refine jk_aload_n (q := 2857) dL_law_2856 rfl rfl ?_
  refine jk_aload (q := 2859) dL_law_2857 rfl rfl ?_
  refine jk_callSH (q := 2862) (As := [.ref x, .ref d]) K1 jm_L_meanLength jw_1374 rfl rfl rfl (by omega) (by omega) rfl dL_law_2859 rfl (fun v' n' t' σ' ρ' hq => ?_) (fun _ _ _ _ _ h => h.elim)
  obtain ⟨c1, rfl, hc1, hm1, P2, K2, hP2⟩ := hP1 _ _ _ _ _ hq
  simp only [Option.toList_some, List.cons_append, List.nil_append]
  refine jk_istore6 (q := 2864) dL_law_2862 rfl rfl rfl ?_
  refine jk_aload_n (q := 2865) dL_law_2864 rfl rfl ?_
  refine jk_cV0g (q := 2868) (K2) jm_X13_meanLength jw_2339 rfl (by first | assumption) rfl rfl (Nat.zero_le _) (Nat.zero_le _) rfl dL_law_2865 rfl (fun v' n' t' σ' ρ' hq => ?_) (fun _ _ _ _ _ h => h.elim)
  obtain ⟨y, rfl, ⟨O, hat, hO, hO12⟩, hto, hcm, hlr⟩ := hP2 _ _ _ _ _ hq
  have hm2 := hat.1
  simp only [Option.toList_some, List.cons_append, List.nil_append]
  simp only [Nat.sub_zero]
  refine jk_dstore7 (q := 2870) dL_law_2868 rfl rfl rfl ?_
  refine jk_aload_n (q := 2871) dL_law_2870 rfl rfl ?_
  refine jk_cV0p (q := 2874) (c_X13_thrown hat hO) jm_X13_thrown jw_1918 rfl (by first | assumption) rfl rfl rfl dL_law_2871 rfl ?_
  rw [hO12]
  refine jk_iload (q := 2876) dL_law_2874 rfl rfl ?_
  refine jk_icmp_eq (q := 2881) (q2 := 2879) dL_law_2876 rfl rfl (by first | decide | assumption | omega) (by first | decide | assumption | omega) (fun z1 => ?_) (fun z1 => ?_)
  · refine jk_iload (q := 2883) dL_law_2881 rfl rfl ?_
    refine jk_if_ne (q := 2918) (q2 := 2886) dL_law_2883 rfl rfl (by first | decide | assumption | omega) (fun z2 => ?_) (fun z2 => ?_)
    · refine jk_goto (q := 3459) dL_law_2918 rfl ?_
      refine jk_convw (jk_rm (hc _ _ _ _ hlr) (by omega) (by omega)) (jk_wkS rfl (jk_wkS rfl (jk_wkS rfl (jk_wkS rfl (jk_wkS rfl (jk_wkS rfl (jk_wkN (jk_wkN (jk_wkN jk_wk0)))))))))
    · refine jk_aload (q := 2888) dL_law_2886 rfl rfl ?_
      refine jk_iconst (q := 2889) dL_law_2888 rfl ?_
      refine jk_daldR (q := 2890) (by first | assumption) (by rfl) (by first | decide | assumption | omega) dL_law_2889 rfl ?_
      rw [show UInt64.ofNat (σ' d 0).toNat = _ from (hcm (by assumption)).1]
      refine jk_dload (q := 2892) dL_law_2890 rfl rfl ?_
      refine jk_dcmp0 (q := 2893) (by exact (hcm (by assumption)).2) dL_law_2892 rfl ?_
      refine jk_ifT_eq (q := 2918) (by decide) (by decide) dL_law_2893 rfl ?_
      refine jk_goto (q := 3459) dL_law_2918 rfl ?_
      refine jk_convw (jk_rm (hc _ _ _ _ hlr) (by omega) (by omega)) (jk_wkS rfl (jk_wkS rfl (jk_wkS rfl (jk_wkS rfl (jk_wkS rfl (jk_wkS rfl (jk_wkN (jk_wkN (jk_wkN jk_wk0)))))))))
  · exact absurd rfl (by assumption)
theorem lw_51 {G : jk_G} {n : Nat} {t : jk_T} {σ : jk_I} {ρ : jk_P} {x m o d k rc rs mc ms : Nat} (hmc : mc ≤ 14) (hms : ms ≤ 420) (hrc : 14 ≤ rc) (hrs : 420 ≤ rs) (hF : lc_E G mc ms x m o d k n t σ ρ) (hc : ∀ n' t' σ' ρ', lr x m o d (k + 1) n' t' σ' ρ' → jk_J G mL_law 3459 [some (.ref 63), some (.ref x), some (.ref m), some (.ref o), some (.ref d), some (jI (5 * (k : Int))), none, none, none] [] n' t' σ' ρ' (rc - 14) (rs - 420) lq_Q jk_no) : jk_J G mL_law 2921 [some (.ref 63), some (.ref x), some (.ref m), some (.ref o), some (.ref d), some (jI (5 * (k : Int))), none, none, none] [] n t σ ρ rc rs lq_Q jk_no := by
  obtain ⟨P1, K1, hP1⟩ := hF
  refine jk_aload_n (q := 2922) dL_law_2921 rfl rfl ?_
  refine jk_aload (q := 2924) dL_law_2922 rfl rfl ?_
  refine jk_callSH (q := 2927) (As := [.ref x, .ref d]) K1 jm_L_usableShare jw_1402 rfl rfl rfl (by omega) (by omega) rfl dL_law_2924 rfl (fun v' n' t' σ' ρ' hq => ?_) (fun _ _ _ _ _ h => h.elim)
  obtain ⟨c1, rfl, hc1, hm1, P2, K2, hP2⟩ := hP1 _ _ _ _ _ hq
  simp only [Option.toList_some, List.cons_append, List.nil_append]
  refine jk_istore6 (q := 2929) dL_law_2927 rfl rfl rfl ?_
  refine jk_aload_n (q := 2930) dL_law_2929 rfl rfl ?_
  refine jk_cV0g (q := 2933) (K2) jm_X13_usableShare jw_2343 rfl (by first | assumption) rfl rfl (Nat.zero_le _) (Nat.zero_le _) rfl dL_law_2930 rfl (fun v' n' t' σ' ρ' hq => ?_) (fun _ _ _ _ _ h => h.elim)
  obtain ⟨y, rfl, ⟨O, hat, hO, hO12⟩, hto, hny, hcm, hlr⟩ := hP2 _ _ _ _ _ hq
  have hm2 := hat.1
  simp only [Option.toList_some, List.cons_append, List.nil_append]
  simp only [Nat.sub_zero]
  refine jk_fstore7 (q := 2935) dL_law_2933 rfl rfl rfl ?_
  refine jk_aload_n (q := 2936) dL_law_2935 rfl rfl ?_
  refine jk_cV0p (q := 2939) (c_X13_thrown hat hO) jm_X13_thrown jw_1918 rfl (by first | assumption) rfl rfl rfl dL_law_2936 rfl ?_
  rw [hO12]
  refine jk_iload (q := 2941) dL_law_2939 rfl rfl ?_
  refine jk_icmp_eq (q := 2946) (q2 := 2944) dL_law_2941 rfl rfl (by first | decide | assumption | omega) (by first | decide | assumption | omega) (fun z1 => ?_) (fun z1 => ?_)
  · refine jk_iload (q := 2948) dL_law_2946 rfl rfl ?_
    refine jk_if_ne (q := 2984) (q2 := 2951) dL_law_2948 rfl rfl (by first | decide | assumption | omega) (fun z2 => ?_) (fun z2 => ?_)
    · refine jk_goto (q := 3459) dL_law_2984 rfl ?_
      refine jk_convw (jk_rm (hc _ _ _ _ hlr) (by omega) (by omega)) (jk_wkS rfl (jk_wkS rfl (jk_wkS rfl (jk_wkS rfl (jk_wkS rfl (jk_wkS rfl (jk_wkN (jk_wkN (jk_wkN jk_wk0)))))))))
    · refine jk_aload (q := 2953) dL_law_2951 rfl rfl ?_
      refine jk_iconst (q := 2954) dL_law_2953 rfl ?_
      refine jk_daldR (q := 2955) (by first | assumption) (by rfl) (by first | decide | assumption | omega) dL_law_2954 rfl ?_
      rw [show UInt64.ofNat (σ' d 0).toNat = _ from (hcm (by assumption)).1]
      refine jk_fload (q := 2957) dL_law_2955 rfl rfl ?_
      refine jk_f2d (q := 2958) (by assumption) dL_law_2957 rfl ?_
      refine jk_dcmp0 (q := 2959) (by exact (hcm (by assumption)).2) dL_law_2958 rfl ?_
      refine jk_ifT_eq (q := 2984) (by decide) (by decide) dL_law_2959 rfl ?_
      refine jk_goto (q := 3459) dL_law_2984 rfl ?_
      refine jk_convw (jk_rm (hc _ _ _ _ hlr) (by omega) (by omega)) (jk_wkS rfl (jk_wkS rfl (jk_wkS rfl (jk_wkS rfl (jk_wkS rfl (jk_wkS rfl (jk_wkN (jk_wkN (jk_wkN jk_wk0)))))))))
  · exact absurd rfl (by assumption)
theorem lf_50 {G : jk_G} {n : Nat} {t : jk_T} {σ : jk_I} {ρ : jk_P} {N : Nat} {f : Nat → Int} {x m o d k : Nat} (hzl : zl_ok G N f) (hr : lr x m o d k n t σ ρ) (hk9 : k ≤ 512) : lc_D G 6 36 x m o d k n t σ ρ := by
  obtain ⟨hz, hzx, hzv, hzp, hzn, ⟨hN, hf⟩, -⟩ := hzl
  obtain ⟨v, K, B, O, g, b, h, sv, Bf, L, P, Lo, hat, hb⟩ := hr
  obtain ⟨hx, hln, hrel, hall, hnn, hsi, hma, hmg, hmo, hmz, hmz1, hto, hJ⟩ := lr_f hat
  have hB := lr_B hat hb hk9
  have hpl := hat.1.1
  have htd := hat.1.2.2.2.2
  obtain ⟨y, e1, hc, hcm⟩ := md_ml_v hall.1
  refine ⟨_, w_meanLength (o := d) hzn hx (c_X12_meanLength hz hzx hln hrel hall hnn hsi md_fp_ok) (fun v' n' t' σ' ρ' hq => ⟨⟨y, by rw [← e1]; exact hq.2.1⟩, by rw [hq.2.2.2.1]; exact htd⟩) (fun E n' t' σ' ρ' hx9 => hx9.2.1), fun v' n' t' σ' ρ' hq => ?_⟩
  have hqq : v' = some (jI (md_q_ml g).1) ∧ n ≤ n' ∧ t' = t ∧ ρ' = ρ ∧ ((md_q_ml g).1 = 0 → ld_r d (y) σ') ∧ ∀ a, (a < x + 512 ∨ x + 546 ≤ a) → a ≠ d → σ' a = σ a := by
    rcases hq with ⟨w, σ1, ⟨h1, h2, h3, h4, h5, h6⟩, rfl, rfl⟩ | ⟨i, hi, ⟨h1, h2, h3, h4, h5, h6⟩, rfl⟩
    · have ey := Value.double.inj (Option.some.inj (h2.trans (congrArg some e1)))
      subst ey
      exact ⟨by rw [h1], by omega, h4, h5, fun _ => by unfold ld_r; rw [jk_row_same, jk_set_at]; exact u64_of _, fun a g1 g2 => (jk_row_ne _ _ g2).trans (h6 a g1)⟩
    · have hi2 : i < 1 := hi
      exact ⟨by congr 3; omega, h3, h4, h5, fun h => absurd h h1, fun a g1 g2 => h6 a g1⟩
  obtain ⟨rfl, hn, h4, h5, hd9, hf9⟩ := hqq
  subst h4 h5
  have hat1 := lr_cq hat hn (fun a h1 _ h2 => hf9 a h1 h2)
  refine ⟨_, rfl, jk_in012 hc, hat1.2.1.1.1, _, c_X13_meanLength hat1.2.1.1 hat1.2.1.2.1.2.1 hall.1 hat1.2.1.2.1.1 hat1.2.1.2.2.1 hat1.2.1.2.2.2 md_fp_ok, fun w n2 t2 σ2 ρ2 h2 => ?_⟩
  obtain ⟨rfl, rfl, rfl, rfl, hp⟩ := h2
  have hat2 := lr_mq hat1 hp
  refine ⟨y, congrArg some e1, ⟨_, hat2.2.1.1, hat2.2.1.2.1.1, jk_set_at _ _ _⟩, hat2.1.2.2.2.2, fun h0 => ⟨?_, hcm h0⟩, ⟨v, K, B, _, g, b, h, sv, Bf, L, P, Lo, hat2, by rw [jk_set_ne _ _ (by decide)]; omega⟩⟩
  have := hd9 h0
  unfold ld_r at this ⊢
  rw [hp.2.1 d (by unfold md_scr; omega) (by omega)]
  exact this
theorem lf_51 {G : jk_G} {n : Nat} {t : jk_T} {σ : jk_I} {ρ : jk_P} {N : Nat} {f : Nat → Int} {x m o d k : Nat} (hzl : zl_ok G N f) (hr : lr x m o d k n t σ ρ) (hk9 : k ≤ 512) : lc_E G 6 36 x m o d k n t σ ρ := by
  obtain ⟨hz, hzx, hzv, hzp, hzn, ⟨hN, hf⟩, -⟩ := hzl
  obtain ⟨v, K, B, O, g, b, h, sv, Bf, L, P, Lo, hat, hb⟩ := hr
  obtain ⟨hx, hln, hrel, hall, hnn, hsi, hma, hmg, hmo, hmz, hmz1, hto, hJ⟩ := lr_f hat
  have hB := lr_B hat hb hk9
  have hpl := hat.1.1
  have htd := hat.1.2.2.2.2
  obtain ⟨y, e1, hc, hny, hcm⟩ := md_sr_v hall.1
  refine ⟨_, w_usableShare (o := d) hzn hx (c_X12_usableShare hz hzx hln hrel hall hnn hsi md_fp_ok) (fun v' n' t' σ' ρ' hq => ⟨⟨y, by rw [← e1]; exact hq.2.1, hny⟩, by rw [hq.2.2.2.1]; exact htd⟩) (fun E n' t' σ' ρ' hx9 => hx9.2.1), fun v' n' t' σ' ρ' hq => ?_⟩
  have hqq : v' = some (jI (md_q_sr g).1) ∧ n ≤ n' ∧ t' = t ∧ ρ' = ρ ∧ ((md_q_sr g).1 = 0 → ld_r d (FP.f2d y) σ') ∧ ∀ a, (a < x + 512 ∨ x + 546 ≤ a) → a ≠ d → σ' a = σ a := by
    rcases hq with ⟨w, σ1, ⟨h1, h2, h3, h4, h5, h6⟩, rfl, rfl⟩ | ⟨i, hi, ⟨h1, h2, h3, h4, h5, h6⟩, rfl⟩
    · have ey := Value.float.inj (Option.some.inj (h2.trans (congrArg some e1)))
      subst ey
      exact ⟨by rw [h1], by omega, h4, h5, fun _ => by unfold ld_r; rw [jk_row_same, jk_set_at]; exact u64_of _, fun a g1 g2 => (jk_row_ne _ _ g2).trans (h6 a g1)⟩
    · have hi2 : i < 1 := hi
      exact ⟨by congr 3; omega, h3, h4, h5, fun h => absurd h h1, fun a g1 g2 => h6 a g1⟩
  obtain ⟨rfl, hn, h4, h5, hd9, hf9⟩ := hqq
  subst h4 h5
  have hat1 := lr_cq hat hn (fun a h1 _ h2 => hf9 a h1 h2)
  refine ⟨_, rfl, jk_in012 hc, hat1.2.1.1.1, _, c_X13_usableShare hat1.2.1.1 hat1.2.1.2.1.2.1 hall.1 hat1.2.1.2.1.1 hat1.2.1.2.2.1 hat1.2.1.2.2.2 md_fp_ok, fun w n2 t2 σ2 ρ2 h2 => ?_⟩
  obtain ⟨rfl, rfl, rfl, rfl, hp⟩ := h2
  have hat2 := lr_mq hat1 hp
  refine ⟨y, congrArg some e1, ⟨_, hat2.2.1.1, hat2.2.1.2.1.1, jk_set_at _ _ _⟩, hat2.1.2.2.2.2, hny, fun h0 => ⟨?_, hcm h0⟩, ⟨v, K, B, _, g, b, h, sv, Bf, L, P, Lo, hat2, by rw [jk_set_ne _ _ (by decide)]; omega⟩⟩
  have := hd9 h0
  unfold ld_r at this ⊢
  rw [hp.2.1 d (by unfold md_scr; omega) (by omega)]
  exact this
end L8
