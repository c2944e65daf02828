section PL
section PLF
variable {p : Program} {l : Launch} {e : Env} {R : Room} {s : State} {m : MethodId} {args : Array Value} {below : List Frame} {meth : Method} {c : Code} {locs : List Loc} {cells slots : Nat}
theorem jk_ldcwF0 {T : State} (X : Stand p l e R s m args below meth c T locs cells slots) (hexec : p.tables.exec = Jvm.exec) {own : String} {index : Nat} {v : UInt32} (hown : s.vm.findClass own = some m.cls)
    (hconst : (Cond.constantFloat own index v).before args s = true) {g : JFrame} (hg : g.method = m) (hdg : decode c.code g.pc = .ok (.ldc_w index, 3)) :
    ∀ target, Steps p.tables e below (T.setTop { g with pc := g.pc + 3, stack := .float v :: g.stack }) target → Steps p.tables e below (T.setTop g) target := by
  obtain ⟨k, cf, hk, hcf, hcp⟩ := Cond.constantFloat_spec hown hconst
  obtain ⟨k', hk', he⟩ := X.warmed.alike.2.2 _ _ hk
  intro target hrest
  subst hg
  jvm_step X.here [hexec, hdg, ldc_w.wp_float (s := T) (f := g) X.here.top hk' (by rw [he]; exact hcf) hcp]
  exact hrest
end PLF
section PLJ
variable {G : jk_G} {M : jk_M} {pc q : Nat} {ls : List (Option Value)} {st : List Value} {n : Nat} {t : jk_T} {σ : jk_I} {ρ : jk_P} {rc rs : Nat} {Q : jk_Q} {X : jk_X}
theorem jk_ldcwF {index : Nat} {v : UInt32} (hw : Cond.constantFloat (jk_own M) index v ∈ jk_WS) (hd : decode (jk_cc M) pc = .ok (.ldc_w index, 3)) (hp : pc + 3 = q) (kk : jk_J G M q ls (.float v :: st) n t σ ρ rc rs Q X) : jk_J G M pc ls st n t σ ρ rc rs Q X := by
  subst hp
  refine jk_mono (fun p e R s m args below meth c H locs cells slots ls' Qf C hl k => ?_) kk
  intro T hT X9
  obtain ⟨t9, a1, b1⟩ := k ls' hl T hT X9
  exact ⟨t9, jk_ldcwF0 X9 C.1 C.2.2.2.2.2.1 (C.2.2.2.2.2.2.1 _ hw) (g := F0 m pc ls' (st.map (jk_re G))) rfl (by rw [C.2.1]; exact hd) t9 a1, b1⟩
theorem jk_ldc2d {index : Nat} {v : UInt64} (hw : Cond.constantDouble (jk_own M) index v ∈ jk_WS) (hd : decode (jk_cc M) pc = .ok (.ldc2_w index, 3)) (hp : pc + 3 = q) (kk : jk_J G M q ls (.double v :: st) n t σ ρ rc rs Q X) : jk_J G M pc ls st n t σ ρ rc rs Q X := by
  subst hp
  exact jk_mono (fun p e R s m args below meth c H locs cells slots ls' Qf C hl k => lv_ldc2d C.1 C.2.1 C.2.2.2.2.2.1 (C.2.2.2.2.2.2.1 _ hw) hd (k ls' hl)) kk
theorem jk_fcmpE {x y : UInt32} {op : CmpOp} (h : Op.cmpValue (FP.fcmp x y) op = Int32.ofInt 0) (hd : decode (jk_cc M) pc = .ok (.fcmp op, 1)) (hp : pc + 1 = q) (k : jk_J G M q ls (jI 0 :: st) n t σ ρ rc rs Q X) : jk_J G M pc ls (.float y :: .float x :: st) n t σ ρ rc rs Q X := by
  subst hp
  exact jk_pure (fun p e R s m args below meth c H locs cells slots ls' Qf hx hb kk => lv_fcmp hx hb hd (by rw [h]; exact kk)) k
theorem jk_dcmpE {x y : UInt64} {op : CmpOp} (h : Op.cmpValue (FP.dcmp x y) op = Int32.ofInt 0) (hd : decode (jk_cc M) pc = .ok (.dcmp op, 1)) (hp : pc + 1 = q) (k : jk_J G M q ls (jI 0 :: st) n t σ ρ rc rs Q X) : jk_J G M pc ls (.double y :: .double x :: st) n t σ ρ rc rs Q X := by
  subst hp
  exact jk_pure (fun p e R s m args below meth c H locs cells slots ls' Qf hx hb kk => lv_dcmp hx hb hd (by rw [h]; exact kk)) k
end PLJ
theorem jw_cf : Cond.constantFloat "LevelingNetworkLaw" 331 (1059760811 : UInt32) ∈ jk_WS := jk_wt8 (i := 63) (by decide +kernel) rfl
theorem jw_cd : Cond.constantDouble "LevelingNetworkLaw" 336 (4618441417868443648 : UInt64) ∈ jk_WS := jk_wt8 (i := 64) (by decide +kernel) rfl
/-! small things of a run -/
theorem a8b {F : Int → Bool} {a : Int} (ha : 0 ≤ a ∧ a ≤ 7) (h : (List.range 8).all (fun i => F (i : Int)) = true) : F a = true := by
  have := List.all_eq_true.mp h a.toNat (List.mem_range.mpr (by omega))
  rw [show ((a.toNat : Nat) : Int) = a by omega] at this
  exact this
def zs : List (Int × Int) → Int → Int
  | [], _ => 0
  | p :: l, i => if i = p.1 then p.2 else zs l i
def zs_ok (L : List (Int × Int)) : Bool := L.all (fun p => decide (0 ≤ p.1 ∧ p.1 < 240))
theorem zs_zf : ∀ {L : List (Int × Int)}, zs_ok L = true → md_zf 240 (zs L)
  | [], _ => fun _ _ => rfl
  | p :: l, h => fun i hi => by
    unfold zs_ok at h
    rw [List.all_cons, Bool.and_eq_true] at h
    have h1 := of_decide_eq_true h.1
    show (if i = p.1 then p.2 else zs l i) = 0
    rw [if_neg (by omega)]
    exact zs_zf (L := l) h.2 i hi
theorem eq_240 {g h : Int → Int} (hg : md_zf 240 g) (hh : md_zf 240 h) (he : (List.range 240).all (fun i => decide (g (i : Int) = h (i : Int))) = true) : g = h := by
  funext i
  by_cases hi : 0 ≤ i ∧ i < 240
  · have := of_decide_eq_true (List.all_eq_true.mp he i.toNat (List.mem_range.mpr (by omega)))
    rw [show ((i.toNat : Nat) : Int) = i by omega] at this
    exact this
  · rw [hg i (by omega), hh i (by omega)]
def gk_eq (P g : Int → Int) (N : Nat) (L : List (Int × Int)) : Bool := zs_ok L && (List.range 240).all (fun i => decide (md_gk P g N (i : Int) = zs L (i : Int)))
theorem gk_lit {B : Int} {P g : Int → Int} {N : Nat} {L : List (Int × Int)} (h : md_all B g) (hB : B + 85 * (N : Int) ≤ 1100000) (he : gk_eq P g N L = true) : md_gk P g N = zs L := by
  unfold gk_eq at he
  rw [Bool.and_eq_true] at he
  exact eq_240 (md_all_gk h P N hB).2.2.2.1 (zs_zf he.1) he.2
def cl_eq (k : Nat) (g : Int → Int) (a b c d val : Int) (L : List (Int × Int)) : Bool := zs_ok L && decide ((cl_do k g a b c d).1 = 0) && decide ((cl_do k g a b c d).2.1 = val) && (List.range 240).all (fun i => decide ((cl_do k g a b c d).2.2 (i : Int) = zs L (i : Int)))
theorem cl_lit {B : Int} {k : Nat} {g : Int → Int} {a b c d val : Int} {L : List (Int × Int)} (h : md_all B g) (hB : B + 85 ≤ 1100000) (he : cl_eq k g a b c d val L = true) : cl_do k g a b c d = (0, val, zs L) := by
  unfold cl_eq at he
  rw [Bool.and_eq_true, Bool.and_eq_true, Bool.and_eq_true] at he
  have e1 := of_decide_eq_true he.1.1.2
  have e2 := of_decide_eq_true he.1.2
  have e3 := eq_240 (md_all_cl h hB k a b c d).2.2.2.1 (zs_zf he.1.1.1) he.2
  rw [← e1, ← e2, ← e3]
theorem jk_fnd_no {F : Int → Bool} : ∀ N : Nat, (∀ k : Nat, k < N → F (k : Int) = false) → jk_fnd F N = -1
  | 0, _ => rfl
  | N + 1, h => by
    unfold jk_fnd
    rw [if_pos (jk_fnd_no N (fun k hk => h k (by omega))), h N (by omega)]
    rfl
theorem jk_fnd_at {F : Int → Bool} (m : Nat) (h0 : ∀ k : Nat, k < m → F (k : Int) = false) (h1 : F (m : Int) = true) : ∀ N : Nat, m < N → jk_fnd F N = (m : Int)
  | 0, h => absurd h (Nat.not_lt_zero _)
  | N + 1, h => by
    unfold jk_fnd
    by_cases e : N = m
    · subst e
      rw [if_pos (jk_fnd_no N h0), if_pos h1]
    · rw [jk_fnd_at m h0 h1 N (by omega), if_neg (by omega)]
theorem md_fP_n (P g : Int → Int) (k : Nat) : md_fP P g (k : Int) = decide ((md_do P (5 * (k : Int)) (md_gk P g k)).1 ≠ 0) := rfl
theorem md_do_p {P g : Int → Int} {k : Int} (h : P k = 112) : md_do P k g = md_addsPoint g := by unfold md_do; rw [h]; rfl
theorem md_do_w {P g : Int → Int} {k w : Int} (h : P k = 119) (hw : P (k + 1) = w) : md_do P k g = md_setsWater g w := by unfold md_do; rw [h, hw]; rfl
theorem md_do_r {P g : Int → Int} {k : Int} (h : P k = 114) : md_do P k g = md_resets g := by unfold md_do; rw [h]; rfl
theorem md_do_f {P g : Int → Int} {k a b : Int} (h : P k = 102) (ha : P (k + 1) = a) (hb : P (k + 2) = b) : md_do P k g = md_fixes g a b := by unfold md_do; rw [h, ha, hb]; rfl
theorem md_do_l {P g : Int → Int} {k a b c d : Int} (h : P k = 108) (ha : P (k + 1) = a) (hb : P (k + 2) = b) (hc : P (k + 3) = c) (hd : P (k + 4) = d) : md_do P k g = md_addsLine g a b c d := by unfold md_do; rw [h, ha, hb, hc, hd]; rfl
def zP0 : Int → Int := fun _ => 0
def xt_0 : List Int := [112, 111, 105, 110, 116, 59, 119, 97, 116, 101, 114, 32, 45, 55, 59, 114, 101, 115, 101, 116]
def xb_0 : List Int := xt_0 ++ ([] : List Int).drop xt_0.length
theorem xk_0 : tx_ok xt_0 = true := by decide +kernel
def xt_1 : List Int := [119, 97, 116, 101, 114, 32, 48, 59, 102, 105, 120, 32, 57, 32, 48]
def xb_1 : List Int := xt_1 ++ (xb_0 : List Int).drop xt_1.length
theorem xk_1 : tx_ok xt_1 = true := by decide +kernel
def xt_2 : List Int := [108, 105, 110, 101, 32, 48, 48, 32, 53, 47, 53]
def xb_2 : List Int := xt_2 ++ (xb_1 : List Int).drop xt_2.length
theorem xk_2 : tx_ok xt_2 = true := by decide +kernel
def xt_3 : List Int := [112]
def xb_3 : List Int := xt_3 ++ (xb_2 : List Int).drop xt_3.length
theorem xk_3 : tx_ok xt_3 = true := by decide +kernel
def xt_4 : List Int := [102]
def xb_4 : List Int := xt_4 ++ (xb_3 : List Int).drop xt_4.length
theorem xk_4 : tx_ok xt_4 = true := by decide +kernel
def xt_5 : List Int := [115]
def xb_5 : List Int := xt_5 ++ (xb_4 : List Int).drop xt_5.length
theorem xk_5 : tx_ok xt_5 = true := by decide +kernel
def xt_6 : List Int := [108, 105, 110, 101, 32, 48, 49, 32, 53]
def xb_6 : List Int := xt_6 ++ (xb_5 : List Int).drop xt_6.length
theorem xk_6 : tx_ok xt_6 = true := by decide +kernel
def xt_7 : List Int := [102, 105, 120, 32, 48, 32, 45]
def xb_7 : List Int := xt_7 ++ (xb_6 : List Int).drop xt_7.length
theorem xk_7 : tx_ok xt_7 = true := by decide +kernel
def xt_8 : List Int := [115, 116, 97, 116, 105, 111, 110, 32, 48, 32, 53]
def xb_8 : List Int := xt_8 ++ (xb_7 : List Int).drop xt_8.length
theorem xk_8 : tx_ok xt_8 = true := by decide +kernel
def xt_9 : List Int := []
def xb_9 : List Int := xt_9 ++ (xb_8 : List Int).drop xt_9.length
theorem xk_9 : tx_ok xt_9 = true := by decide +kernel
def xt_10 : List Int := [114, 101, 115, 101, 116, 59]
def xb_10 : List Int := xt_10 ++ (xb_9 : List Int).drop xt_10.length
theorem xk_10 : tx_ok xt_10 = true := by decide +kernel
def xt_11 : List Int := [112, 114]
def xb_11 : List Int := xt_11 ++ (xb_10 : List Int).drop xt_11.length
theorem xk_11 : tx_ok xt_11 = true := by decide +kernel
def xt_12 : List Int := [102, 105, 120, 32, 48, 32, 49, 50, 51, 52, 53, 54]
def xb_12 : List Int := xt_12 ++ (xb_11 : List Int).drop xt_12.length
theorem xk_12 : tx_ok xt_12 = true := by decide +kernel
def xt_13 : List Int := [122]
def xb_13 : List Int := xt_13 ++ (xb_12 : List Int).drop xt_13.length
theorem xk_13 : tx_ok xt_13 = true := by decide +kernel
theorem xw_0 : md_w2 (tb xb_0) ((xt_0.length : Nat) : Int) zP0 = false := by decide +kernel
theorem xw_1 : md_w2 (tb xb_1) ((xt_1.length : Nat) : Int) zP0 = false := by decide +kernel
theorem xw_2 : md_w2 (tb xb_2) ((xt_2.length : Nat) : Int) zP0 = false := by decide +kernel
theorem xw_3 : md_w2 (tb xb_3) ((xt_3.length : Nat) : Int) zP0 = true := by decide +kernel
theorem xp_3 : (md_x (tb xb_3) ((xt_3.length : Nat) : Int) zP0).1.1 = 1 := by decide +kernel
theorem xw_4 : md_w2 (tb xb_4) ((xt_4.length : Nat) : Int) zP0 = true := by decide +kernel
theorem xp_4 : (md_x (tb xb_4) ((xt_4.length : Nat) : Int) zP0).1.1 = 1 := by decide +kernel
theorem xw_5 : md_w2 (tb xb_5) ((xt_5.length : Nat) : Int) zP0 = true := by decide +kernel
theorem xp_5 : (md_x (tb xb_5) ((xt_5.length : Nat) : Int) zP0).1.1 = 1 := by decide +kernel
theorem xw_6 : md_w2 (tb xb_6) ((xt_6.length : Nat) : Int) zP0 = true := by decide +kernel
theorem xp_6 : (md_x (tb xb_6) ((xt_6.length : Nat) : Int) zP0).1.1 = 9 := by decide +kernel
theorem xw_7 : md_w2 (tb xb_7) ((xt_7.length : Nat) : Int) zP0 = true := by decide +kernel
theorem xp_7 : (md_x (tb xb_7) ((xt_7.length : Nat) : Int) zP0).1.1 = 7 := by decide +kernel
theorem xw_8 : md_w2 (tb xb_8) ((xt_8.length : Nat) : Int) zP0 = true := by decide +kernel
theorem xp_8 : (md_x (tb xb_8) ((xt_8.length : Nat) : Int) zP0).1.1 = 11 := by decide +kernel
theorem xw_9 : md_w2 (tb xb_9) ((xt_9.length : Nat) : Int) zP0 = true := by decide +kernel
theorem xp_9 : (md_x (tb xb_9) ((xt_9.length : Nat) : Int) zP0).1.1 = 0 := by decide +kernel
theorem xw_10 : md_w2 (tb xb_10) ((xt_10.length : Nat) : Int) zP0 = true := by decide +kernel
theorem xp_10 : (md_x (tb xb_10) ((xt_10.length : Nat) : Int) zP0).1.1 = 6 := by decide +kernel
theorem xw_11 : md_w2 (tb xb_11) ((xt_11.length : Nat) : Int) zP0 = true := by decide +kernel
theorem xp_11 : (md_x (tb xb_11) ((xt_11.length : Nat) : Int) zP0).1.1 = 2 := by decide +kernel
theorem xw_12 : md_w2 (tb xb_12) ((xt_12.length : Nat) : Int) zP0 = true := by decide +kernel
theorem xp_12 : (md_x (tb xb_12) ((xt_12.length : Nat) : Int) zP0).1.1 = 11 := by decide +kernel
theorem xw_13 : md_w2 (tb xb_13) ((xt_13.length : Nat) : Int) zP0 = true := by decide +kernel
theorem xp_13 : (md_x (tb xb_13) ((xt_13.length : Nat) : Int) zP0).1.1 = 0 := by decide +kernel
theorem xn_0 : md_cn (tb xb_0) ((xt_0.length : Nat) : Int) zP0 = 3 := by decide +kernel
theorem xn_1 : md_cn (tb xb_1) ((xt_1.length : Nat) : Int) zP0 = 2 := by decide +kernel
theorem xn_2 : md_cn (tb xb_2) ((xt_2.length : Nat) : Int) zP0 = 1 := by decide +kernel
/-- the first script, on any network that isn't full -/
def xg (g : Int → Int) : Int → Int := (md_resets (md_setsWater (md_addsPoint g).2.2 (-7)).2.2).2.2
theorem xd_00 (g : Int → Int) : md_do (md_x (tb xb_0) ((xt_0.length : Nat) : Int) zP0).2 (5 * ((0 : Nat) : Int)) g = md_addsPoint g := md_do_p (by decide +kernel)
theorem xd_01 (g : Int → Int) : md_do (md_x (tb xb_0) ((xt_0.length : Nat) : Int) zP0).2 (5 * ((1 : Nat) : Int)) g = md_setsWater g (-7) := md_do_w (by decide +kernel) (by decide +kernel)
theorem xd_02 (g : Int → Int) : md_do (md_x (tb xb_0) ((xt_0.length : Nat) : Int) zP0).2 (5 * ((2 : Nat) : Int)) g = md_resets g := md_do_r (by decide +kernel)
theorem xd_10 (g : Int → Int) : md_do (md_x (tb xb_1) ((xt_1.length : Nat) : Int) zP0).2 (5 * ((0 : Nat) : Int)) g = md_setsWater g 0 := md_do_w (by decide +kernel) (by decide +kernel)
theorem xd_11 (g : Int → Int) : md_do (md_x (tb xb_1) ((xt_1.length : Nat) : Int) zP0).2 (5 * ((1 : Nat) : Int)) g = md_fixes g 9 0 := md_do_f (by decide +kernel) (by decide +kernel) (by decide +kernel)
theorem xd_20 (g : Int → Int) : md_do (md_x (tb xb_2) ((xt_2.length : Nat) : Int) zP0).2 (5 * ((0 : Nat) : Int)) g = md_addsLine g 0 0 5 5 := md_do_l (by decide +kernel) (by decide +kernel) (by decide +kernel) (by decide +kernel) (by decide +kernel)
theorem xg_gk (g : Int → Int) : md_gk (md_x (tb xb_0) ((xt_0.length : Nat) : Int) zP0).2 g 3 = xg g := by
  show (md_do (md_x (tb xb_0) ((xt_0.length : Nat) : Int) zP0).2 (5 * ((2 : Nat) : Int)) (md_do (md_x (tb xb_0) ((xt_0.length : Nat) : Int) zP0).2 (5 * ((1 : Nat) : Int)) (md_do (md_x (tb xb_0) ((xt_0.length : Nat) : Int) zP0).2 (5 * ((0 : Nat) : Int)) g).2.2).2.2).2.2 = _
  rw [xd_00, xd_01, xd_02]; rfl
theorem md_water0 (g : Int → Int) {w : Int} (hw : -99999 ≤ w ∧ w ≤ 99999) : md_setsWater g w = (0, g 3, jk_set g 3 w) := if_neg (fun h => md_inF h hw)
theorem md_point0 {g : Int → Int} (h : g 0 ≤ 7) : md_addsPoint g = (0, g 0, jk_set g 0 (g 0 + 1)) := if_neg (by omega)
theorem xf_0 {g : Int → Int} (h : g 0 ≤ 7) : md_ff (tb xb_0) ((xt_0.length : Nat) : Int) zP0 g = -1 := by
  unfold md_ff
  rw [xn_0]
  refine jk_fnd_no 3 (fun k hk => ?_)
  rw [md_fP_n]
  match k, hk with
  | 0, _ => rw [xd_00, show md_gk (md_x (tb xb_0) ((xt_0.length : Nat) : Int) zP0).2 g 0 = g from rfl, md_point0 h]; rfl
  | 1, _ => rw [xd_01, md_water0 _ (by decide)]; rfl
  | 2, _ => rw [xd_02]; rfl
theorem xf_1 {g : Int → Int} (h : g 0 ≤ 7) : md_ff (tb xb_1) ((xt_1.length : Nat) : Int) zP0 g = 1 := by
  unfold md_ff
  rw [xn_1]
  refine jk_fnd_at 1 (fun k hk => ?_) ?_ 2 (by decide)
  · rw [md_fP_n]
    match k, hk with
    | 0, _ => rw [xd_10, md_water0 _ (by decide)]; rfl
  · rw [md_fP_n, xd_11]
    have e : md_gk (md_x (tb xb_1) ((xt_1.length : Nat) : Int) zP0).2 g 1 0 = g 0 := by
      show (md_do (md_x (tb xb_1) ((xt_1.length : Nat) : Int) zP0).2 (5 * ((0 : Nat) : Int)) g).2.2 0 = _
      rw [xd_10, md_water0 _ (by decide)]
      show jk_set g 3 0 0 = g 0
      exact jk_set_ne _ _ (by decide)
    refine decide_eq_true ?_
    unfold md_fixes
    rw [if_pos (by rw [e]; exact decide_eq_false (by omega))]
    show (1 : Int) ≠ 0
    decide
theorem xf_2 (g : Int → Int) : md_ff (tb xb_2) ((xt_2.length : Nat) : Int) zP0 g = 0 := by
  unfold md_ff
  rw [xn_2]
  refine jk_fnd_at 0 (fun k hk => absurd hk (Nat.not_lt_zero _)) ?_ 1 (by decide)
  rw [md_fP_n, xd_20]
  refine decide_eq_true ?_
  unfold md_addsLine
  split
  · show (1 : Int) ≠ 0; decide
  · rw [if_pos (Or.inl rfl)]; show (2 : Int) ≠ 0; decide
theorem b_t {b : Bool} (h : ¬ b = false) : b = true := by
  cases b
  · exact absurd rfl h
  · rfl
theorem md_shk_at0 (g S P : Int → Int) (d k : Int) : md_shk g S P d k 0 = g 0 := by
  unfold md_shk
  exact if_neg (by omega)
theorem cl_g0 (k : Nat) (g : Int → Int) (a b c d : Int) (hg : 0 ≤ g 0 ∧ g 0 ≤ 10) (h1 : 0 ≤ g 1 ∧ g 1 ≤ 16) (h2 : 0 ≤ g 2 ∧ g 2 ≤ 4) (h156 : ∀ q, 0 ≤ q ∧ q < 4 → 0 ≤ g (156 + q) ∧ g (156 + q) ≤ 10) : (cl_do k g a b c d).2.2 0 ≤ g 0 + (if k = 0 then 1 else 0) := by
  have hn : ∀ {i v : Int} {f : Int → Int}, i ≠ 0 → jk_set f i v 0 = f 0 := fun hi => jk_set_ne _ _ (fun h => hi h.symm)
  unfold cl_do
  split
  · unfold md_addsPoint; split
    · show g 0 ≤ _; rw [if_pos rfl]; omega
    · show jk_set g 0 (g 0 + 1) 0 ≤ _; rw [jk_set_at, if_pos rfl]; omega
  · rw [if_neg (by omega)]; unfold md_fixes; split
    · show g 0 ≤ _; omega
    · split
      · show g 0 ≤ _; omega
      · rename_i h _; show md_fixG g a b 0 ≤ _; unfold md_fixG
        have := md_inT (b_t h)
        rw [hn (by omega), hn (by omega)]; omega
  · rw [if_neg (by omega)]; unfold md_releases; split
    · show g 0 ≤ _; omega
    · split
      · show g 0 ≤ _; omega
      · rename_i h _; show jk_set g (4 + a) 0 0 ≤ _
        have := md_inT (b_t h)
        rw [hn (by omega)]; omega
  · rw [if_neg (by omega)]; unfold md_addsLine; split
    · show g 0 ≤ _; omega
    · split
      · show g 0 ≤ _; omega
      · split
        · show g 0 ≤ _; omega
        · show jk_set (jk_set (jk_set (jk_set (jk_set g (24 + g 1) a) (40 + g 1) b) (72 + g 1) c) (56 + g 1) d) 1 (g 1 + 1) 0 ≤ _
          rw [hn (by omega), hn (by omega), hn (by omega), hn (by omega), hn (by omega)]; omega
  · rw [if_neg (by omega)]; unfold md_addsRun; split
    · show g 0 ≤ _; omega
    · split
      · show g 0 ≤ _; omega
      · split
        · show g 0 ≤ _; omega
        · rename_i h _ _; show md_runG g a b 0 ≤ _; unfold md_runG
          have := md_inT (b_t h)
          rw [hn (by omega), hn (by omega)]; omega
  · rw [if_neg (by omega)]; unfold md_marks; split
    · show g 0 ≤ _; omega
    · split
      · show g 0 ≤ _; omega
      · rename_i h _; show jk_set g (120 + a) (1 - 0) 0 ≤ _
        have := md_inT (b_t h)
        rw [hn (by omega)]; omega
  · rw [if_neg (by omega)]; unfold md_marks; split
    · show g 0 ≤ _; omega
    · split
      · show g 0 ≤ _; omega
      · rename_i h _; show jk_set g (120 + a) (1 - 1) 0 ≤ _
        have := md_inT (b_t h)
        rw [hn (by omega)]; omega
  · rw [if_neg (by omega)]; unfold md_shares; split
    · show g 0 ≤ _; omega
    · split
      · show g 0 ≤ _; omega
      · show md_shk g (md_sgn g (md_T g) a) (md_parts g (md_sgn g (md_T g) a)) (md_dir (md_err g (md_sgn g (md_T g) a))) (g 1) 0 ≤ _
        rw [md_shk_at0]; omega
  · rw [if_neg (by omega)]; show md_clr g (g 1) 0 ≤ _; unfold md_clr; rw [if_neg (by omega)]; omega
  · rw [if_neg (by omega)]; unfold md_addsProfile; split
    · show g 0 ≤ _; omega
    · split
      · show g 0 ≤ _; omega
      · show jk_set (jk_set g (152 + g 2) a) 2 (g 2 + 1) 0 ≤ _
        rw [hn (by omega), hn (by omega)]; omega
  · rw [if_neg (by omega)]; unfold md_addsStation; split
    · show g 0 ≤ _; omega
    · split
      · show g 0 ≤ _; omega
      · split
        · show g 0 ≤ _; omega
        · rename_i h _ _; show md_stG g a b c 0 ≤ _; unfold md_stG
          have h3 := md_inT (b_t h)
          have h4 := h156 a ⟨by omega, by omega⟩
          rw [hn (by omega), hn (by omega), hn (by omega)]; omega
  · rw [if_neg (by omega)]; unfold md_setsWater; split
    · show g 0 ≤ _; omega
    · show jk_set g 3 a 0 ≤ _; rw [hn (by decide)]; omega
end PL
