section PN
def xs_ok (G : jk_G) : Prop := sx_ok G 212 "point;water -7;reset" xt_0 ∧ sx_ok G 228 "water 0;fix 9 0" xt_1 ∧ sx_ok G 236 "line 00 5/5" xt_2 ∧ sx_ok G 238 "p" xt_3 ∧ sx_ok G 244 "f" xt_4 ∧ sx_ok G 246 "s" xt_5 ∧ sx_ok G 248 "line 01 5" xt_6 ∧ sx_ok G 250 "fix 0 -" xt_7 ∧ sx_ok G 252 "station 0 5" xt_8 ∧ sx_ok G 254 "" xt_9 ∧ sx_ok G 256 "reset;" xt_10 ∧ sx_ok G 258 "pr" xt_11 ∧ sx_ok G 260 "fix 0 123456" xt_12 ∧ sx_ok G 262 "z" xt_13 ∧ sx_ok G 280 "point;point;point;fix 0 1000;line 01 " zq_280 ∧ sx_ok G 289 "/4;line 12 50/4" zq_289 ∧ sx_ok G 295 "line 20 -" zq_295 ∧ sx_ok G 297 "/8;profile 1;station 0 0:0;station 0 10:-100" zq_297 ∧ sx_ok G 308 "2:2>0 -" zq_308 ∧ sx_ok G 310 "/8o" zq_310 ∧ sx_ok G 319 "0=1000!" zq_319
theorem xs_212 {G : jk_G} (h : xs_ok G) : sx_ok G 212 "point;water -7;reset" xt_0 := h.1
theorem xs_228 {G : jk_G} (h : xs_ok G) : sx_ok G 228 "water 0;fix 9 0" xt_1 := h.2.1
theorem xs_236 {G : jk_G} (h : xs_ok G) : sx_ok G 236 "line 00 5/5" xt_2 := h.2.2.1
theorem xs_238 {G : jk_G} (h : xs_ok G) : sx_ok G 238 "p" xt_3 := h.2.2.2.1
theorem xs_244 {G : jk_G} (h : xs_ok G) : sx_ok G 244 "f" xt_4 := h.2.2.2.2.1
theorem xs_246 {G : jk_G} (h : xs_ok G) : sx_ok G 246 "s" xt_5 := h.2.2.2.2.2.1
theorem xs_248 {G : jk_G} (h : xs_ok G) : sx_ok G 248 "line 01 5" xt_6 := h.2.2.2.2.2.2.1
theorem xs_250 {G : jk_G} (h : xs_ok G) : sx_ok G 250 "fix 0 -" xt_7 := h.2.2.2.2.2.2.2.1
theorem xs_252 {G : jk_G} (h : xs_ok G) : sx_ok G 252 "station 0 5" xt_8 := h.2.2.2.2.2.2.2.2.1
theorem xs_254 {G : jk_G} (h : xs_ok G) : sx_ok G 254 "" xt_9 := h.2.2.2.2.2.2.2.2.2.1
theorem xs_256 {G : jk_G} (h : xs_ok G) : sx_ok G 256 "reset;" xt_10 := h.2.2.2.2.2.2.2.2.2.2.1
theorem xs_258 {G : jk_G} (h : xs_ok G) : sx_ok G 258 "pr" xt_11 := h.2.2.2.2.2.2.2.2.2.2.2.1
theorem xs_260 {G : jk_G} (h : xs_ok G) : sx_ok G 260 "fix 0 123456" xt_12 := h.2.2.2.2.2.2.2.2.2.2.2.2.1
theorem xs_262 {G : jk_G} (h : xs_ok G) : sx_ok G 262 "z" xt_13 := h.2.2.2.2.2.2.2.2.2.2.2.2.2.1
theorem xs_280 {G : jk_G} (h : xs_ok G) : sx_ok G 280 "point;point;point;fix 0 1000;line 01 " zq_280 := h.2.2.2.2.2.2.2.2.2.2.2.2.2.2.1
theorem xs_289 {G : jk_G} (h : xs_ok G) : sx_ok G 289 "/4;line 12 50/4" zq_289 := h.2.2.2.2.2.2.2.2.2.2.2.2.2.2.2.1
theorem xs_295 {G : jk_G} (h : xs_ok G) : sx_ok G 295 "line 20 -" zq_295 := h.2.2.2.2.2.2.2.2.2.2.2.2.2.2.2.2.1
theorem xs_297 {G : jk_G} (h : xs_ok G) : sx_ok G 297 "/8;profile 1;station 0 0:0;station 0 10:-100" zq_297 := h.2.2.2.2.2.2.2.2.2.2.2.2.2.2.2.2.2.1
theorem xs_308 {G : jk_G} (h : xs_ok G) : sx_ok G 308 "2:2>0 -" zq_308 := h.2.2.2.2.2.2.2.2.2.2.2.2.2.2.2.2.2.2.1
theorem xs_310 {G : jk_G} (h : xs_ok G) : sx_ok G 310 "/8o" zq_310 := h.2.2.2.2.2.2.2.2.2.2.2.2.2.2.2.2.2.2.2.1
theorem xs_319 {G : jk_G} (h : xs_ok G) : sx_ok G 319 "0=1000!" zq_319 := h.2.2.2.2.2.2.2.2.2.2.2.2.2.2.2.2.2.2.2.2
abbrev mL_law : jk_M := ("LevelingNetworkLaw", code, 7, (some FieldType.boolean), [], false, 40)
def lq_Q : jk_Q := fun v' _ _ _ _ => v' = some (jI 1)
theorem pX_g {o v K : Nat} {S : ps_S} {B sp : Int} {sv9 Bf : Int → Int} {e f : Int} {Lo : List Int} {n : Nat} {t : jk_T} {σ : jk_I} {ρ : jk_P} {g' : Int → Int} (h : pX o v K S B sp sv9 Bf e f Lo n t σ ρ) (hg : S.1 = g') : pX o v K (g', S.2.1, S.2.2) B sp sv9 Bf e f Lo n t σ ρ := by subst hg; exact h
theorem fq_k {α : Type} {r : Int × α} {v : α} (h : r = (0, v)) : r.1 = 0 := by rw [h]
theorem fq_s {α : Type} {r : Int × α} {v : α} (h : r = (0, v)) : r.2 = v := by rw [h]
theorem fq_v {r : Int × Int} {v : Int} (h : r = (0, v)) : jI r.2 = jI v := by rw [h]
theorem fq_0 {r : Int × Bool} (h : r = (0, false)) : jI (jB r.2) = jI 0 := by rw [h]; rfl
theorem fq_1 {r : Int × Bool} (h : r = (0, true)) : jI (jB r.2) = jI 1 := by rw [h]; rfl
theorem fq_2 {x v : Int} (h : x = v) : jI x = jI v := by rw [h]
theorem xg_eq {g : Int → Int} (h : g 0 ≤ 7) : xg g = (md_resets (jk_set (jk_set g 0 (g 0 + 1)) 3 (-7))).2.2 := by
  unfold xg
  rw [md_point0 h, md_water0 _ (by decide)]
theorem rs_bd {F : Int → Prop} [∀ l, Decidable (F l)] : ∀ N : Nat, 0 ≤ jk_sum (fun l => if F l then 0 else 1) N ∧ jk_sum (fun l => if F l then 0 else 1) N ≤ (N : Int)
  | 0 => ⟨Int.le_refl _, Int.le_refl _⟩
  | N + 1 => by
    have h := rs_bd (F := F) N
    have e : jk_sum (fun l => if F l then 0 else 1) (N + 1) = jk_sum (fun l => if F l then 0 else 1) N + (if F (N : Int) then 0 else 1) := rfl
    rw [e]; push_cast
    split <;> omega
section PNW
variable {G : jk_G} {pc q : Nat} {M : jk_M} {ls : List (Option Value)} {st : List Value} {n : Nat} {t : jk_T} {σ : jk_I} {ρ : jk_P} {rc rs : Nat} {Q : jk_Q} {X : jk_X} {o v K : Nat} {g : Int → Int} {c : Nat} {H : Nat → Int → Int} {B sp : Int} {sv9 Bf : Int → Int} {e f : Int} {Lo : List Int}
theorem jt_c {y : MethodName} {M1 : jk_M} {index na k : Nat} {As rest : List Value} {a b c9 d val : Int} {g' : Int → Int} (h1 : pX o v K (g, c, H) B sp sv9 Bf e f Lo n t σ ρ) (hK : jk_K G y M1 1 6 (.ref o :: As) n t σ ρ (ln_CQ o c H g (cl_do k g a b c9 d) σ n t ρ) (ln_CX o k (cl_do k g a b c9 d) σ n t ρ)) (hr : cl_do k g a b c9 d = (0, val, g')) (hB : B + 85 ≤ 1100000) (hm : jk_mV y M1 na) (hw : Cond.methodLink (jk_own M) index y ∈ jk_WS) (hcl : (jk_cl 12).1 = y.cls) (hna : As.length = na) (hdep : Nat.ble (jk_d M1 + 1) (jk_d M) = true) (hlen : Nat.ble rest.length 4 = true) (hmc : 1 ≤ rc) (hms : 6 ≤ rs) (htb : jk_tb M = [])
    (hd : decode (jk_cc M) pc = .ok (.invokevirtual index, 3)) (hp : pc + 3 = q) (kk : ∀ σ', pX o v K (g', hs_pc c, hs_pH c H g) (B + 85) sp sv9 Bf e f Lo n t σ' ρ → pF o v n t σ ρ n t σ' ρ → jk_J G M q ls (jI val :: rest) n t σ' ρ (rc - 1) (rs - 6) Q X) : jk_J G M pc ls (As.reverse ++ .ref o :: rest) n t σ ρ rc rs Q X :=
  jr_c (S := (g, c, H)) h1 hK hr hB hm hw hcl hna hdep hlen hmc hms htb hd hp kk
theorem jt_undo {index : Nat} {rest : List Value} (hz : zz_ok G) (hx : zx_ok G) (h1 : pX o v K (g, c, H) B sp sv9 Bf e f Lo n t σ ρ) (hc : 0 < c) (hw : Cond.methodLink (jk_own M) index yX12_undo ∈ jk_WS) (hdep : Nat.ble (jk_d mX12_undo + 1) (jk_d M) = true) (hlen : Nat.ble rest.length 4 = true) (hmc : 1 ≤ rc) (hms : 6 ≤ rs) (htb : jk_tb M = [])
    (hd : decode (jk_cc M) pc = .ok (.invokevirtual index, 3)) (hp : pc + 3 = q) (kk : ∀ σ', pX o v K (H (c - 1), c - 1, H) B sp sv9 Bf e f Lo n t σ' ρ → pF o v n t σ ρ n t σ' ρ → jk_J G M q ls (jI ((c : Int) - 1) :: rest) n t σ' ρ (rc - 1) (rs - 6) Q X) : jk_J G M pc ls (.ref o :: rest) n t σ ρ rc rs Q X :=
  jr_undo (S := (g, c, H)) hz hx h1 hc hw hdep hlen hmc hms htb hd hp kk
theorem jt_a9 {index : Nat} {rest : List Value} {a b c9 : Int} (hz : zz_ok G) (hx : zx_ok G) (hzn : zn_ok G) (hzn2 : zn2_ok G) (h1 : pX o v K (g, c, H) B sp sv9 Bf e f Lo n t σ ρ) (hB : B + 85 ≤ 1100000) (ha : jk_w a = a) (ha2 : -99999 ≤ a ∧ a ≤ 99999) (hw : Cond.methodLink (jk_own M) index yL_act ∈ jk_WS) (hdep : Nat.ble 35 (jk_d M) = true) (hlen : Nat.ble rest.length 4 = true) (hmc : 1 ≤ rc) (hms : 6 ≤ rs) (htb : jk_tb M = [])
    (hd : decode (jk_cc M) pc = .ok (.invokestatic index, 3)) (hp : pc + 3 = q) (kk : ∀ n' σ', pX o v K (jk_set g 3 a, hs_pc c, hs_pH c H g) (B + 85) sp sv9 Bf e f Lo n' t σ' ρ → pF o v n t σ ρ n' t σ' ρ → jk_J G M q ls (jI (g 3) :: rest) n' t σ' ρ (rc - 1) (rs - 6) Q X) : jk_J G M pc ls (jI c9 :: jI b :: jI a :: jI 9 :: .ref o :: rest) n t σ ρ rc rs Q X :=
  jr_a9 (S := (g, c, H)) hz hx hzn hzn2 h1 hB ha ha2 hw hdep hlen hmc hms htb hd hp kk
theorem jt_save {index : Nat} {rest : List Value} (hz : zz_ok G) (hx : zx_ok G) (h1 : pX o v K (g, c, H) B sp sv9 Bf e f Lo n t σ ρ) (hw : Cond.methodLink (jk_own M) index yX12_save ∈ jk_WS) (hdep : Nat.ble (jk_d mX12_save + 1) (jk_d M) = true) (hlen : Nat.ble rest.length 4 = true) (htb : jk_tb M = [])
    (hd : decode (jk_cc M) pc = .ok (.invokevirtual index, 3)) (hp : pc + 3 = q) (kk : ∀ σ', pX o v K (g, c, H) B 1 g Bf e f Lo n t σ' ρ → pF o v n t σ ρ n t σ' ρ → jk_J G M q ls (jI (g 1) :: rest) n t σ' ρ rc rs Q X) : jk_J G M pc ls (.ref o :: rest) n t σ ρ rc rs Q X :=
  jr_save (S := (g, c, H)) hz hx h1 hw hdep hlen htb hd hp kk
theorem jt_state {index : Nat} {rest : List Value} (hz : zz_ok G) (hx : zx_ok G) (hzn : zn_ok G) (hzn2 : zn2_ok G) (h1 : pX o v K (g, c, H) B sp sv9 Bf e f Lo n t σ ρ) (hw : Cond.methodLink (jk_own M) index yL_state ∈ jk_WS) (hdep : Nat.ble (jk_d mL_state + 1) (jk_d M) = true) (hlen : Nat.ble rest.length 4 = true) (hmc : 2500 ≤ rc) (hms : 20000 ≤ rs) (htb : jk_tb M = [])
    (hd : decode (jk_cc M) pc = .ok (.invokestatic index, 3)) (hp : pc + 3 = q) (kk : ∀ n' σ', pX o v K (g, c, H) B sp sv9 Bf e f Lo n' t σ' ρ → pF o v n t σ ρ n' t σ' ρ → jk_J G M q ls (jI (jk_w (sv g)) :: rest) n' t σ' ρ (rc - 2500) (rs - 20000) Q X) : jk_J G M pc ls (.ref o :: rest) n t σ ρ rc rs Q X :=
  jr_state (S := (g, c, H)) hz hx hzn hzn2 h1 hw hdep hlen hmc hms htb hd hp kk
theorem jt_run {index N : Nat} {rest : List Value} {ty : Int} {P0 g' : Int → Int} (hz : zz_ok G) (hx : zx_ok G) (hv : zv_ok G) (hT : pT o v K (g, c, H) B sp sv9 Bf e f Lo ty n t σ ρ) (hB : B ≤ 1000000) (hw2 : md_w2 Bf ty P0 = false) (hff : md_ff Bf ty P0 g = -1) (hcn : md_cn Bf ty P0 = N) (hgk : md_gk (md_x Bf ty P0).2 g N = g') (hw : Cond.methodLink (jk_own M) index yX12_runScript ∈ jk_WS) (hdep : Nat.ble (jk_d mX12_runScript + 1) (jk_d M) = true) (hlen : Nat.ble rest.length 4 = true) (hmc : 1 ≤ rc) (hms : 6 ≤ rs) (htb : jk_tb M = [])
    (hd : decode (jk_cc M) pc = .ok (.invokevirtual index, 3)) (hp : pc + 3 = q) (kk : ∀ σ' ρ', pX o v K (g', hs_pc c, hs_pH c H g) (B + 850) sp sv9 Bf e f Lo n t σ' ρ' → pF o v n t σ ρ n t σ' ρ' → jk_J G M q ls (jI (N : Int) :: rest) n t σ' ρ' (rc - 1) (rs - 6) Q X) : jk_J G M pc ls (.ref o :: rest) n t σ ρ rc rs Q X :=
  jr_run (S := (g, c, H)) hz hx hv hT hB hw2 hff hcn hgk hw hdep hlen hmc hms htb hd hp kk
theorem jt_fails {index a : Nat} {L L0 L1 : List Int} {P0 : Int → Int} {ps : Int} {rest : List Value} (hz : zz_ok G) (hx : zx_ok G) (hv : zv_ok G) (hzn : zn_ok G) (hzn2 : zn2_ok G) (h1 : pX o v K (g, c, H) B sp sv9 (tb L0) e f Lo n t σ ρ) (hB : B ≤ 1000000) (hs : st_is G t ρ σ a L) (htx : tx_ok L = true) (hL : L ++ L0.drop L.length = L1) (hw2 : md_w2 (tb L1) ((L.length : Nat) : Int) P0 = true) (hps : (md_x (tb L1) ((L.length : Nat) : Int) P0).1.1 = ps) (hpb : 0 ≤ ps ∧ ps ≤ 100) (hw : Cond.methodLink (jk_own M) index yL_fails ∈ jk_WS) (hdep : Nat.ble (jk_d mL_fails + 1) (jk_d M) = true) (hlen : Nat.ble rest.length 4 = true) (hmc : 70 ≤ rc) (hms : 400 ≤ rs) (htb : jk_tb M = [])
    (hd : decode (jk_cc M) pc = .ok (.invokestatic index, 3)) (hp : pc + 3 = q) (kk : ∀ n' σ' ρ', pX o v K (g, c, H) B sp sv9 (tb L1) ps f Lo n' t σ' ρ' → pF o v n t σ ρ n' t σ' ρ' → jk_J G M q ls (jI 1 :: rest) n' t σ' ρ' (rc - 70) (rs - 400) Q X) : jk_J G M pc ls (jI ps :: .ref a :: .ref o :: rest) n t σ ρ rc rs Q X := by
  subst hL
  rw [← bf_tb] at hw2 hps
  refine jk_cS3g (q := q) (c_fails (P0 := P0) hz hx hv hzn hzn2 h1 hB hs htx hw2 hps hpb) jm_L_fails hw hdep hlen hmc hms htb hd hp (fun v' n' t' σ' ρ' hq => ?_) (fun _ _ _ _ _ h => h.elim)
  obtain ⟨rfl, rfl, h3, h4⟩ := hq
  rw [bf_tb] at h3
  exact kk n' σ' ρ' h3 h4
end PNW
theorem jE {G : jk_G} {n : Nat} {t : jk_T} {σ : jk_I} {ρ : jk_P} {B e f a : Int} {g : Int → Int} {c y z : Nat} {H : Nat → Int → Int} {Bf : Int → Int} {rc rs : Nat} (hz : zz_ok G) (hx : zx_ok G) (hv : zv_ok G) (hzp : zp_ok G) (hzq : zq2_ok G) (hzn : zn_ok G) (hzn2 : zn2_ok G) (hs : xs_ok G) (hX : pX 64 644 16 (g, c, H) B 1 g Bf e f [] n t σ ρ) (hrc : 2600 ≤ rc) (hrs : 21000 ≤ rs) : jk_J G mL_law 1309 [some (.ref 63), some (.ref 64), some (.ref y), some (jI (g 1)), some (jI (jk_w (sv g))), some (jI a), some (.ref z)] [] n t σ ρ rc rs lq_Q jk_no := by
  have hg1 : 0 ≤ g 1 ∧ g 1 ≤ 16 := hX.1.2.1.1.1.2.1
  refine jk_aload_n (q := 1310) dL_law_1309 rfl rfl ?_
  refine jr_restore (q := 1313) hz hx hX rfl jw_1588 rfl rfl (by omega) (by omega) rfl dL_law_1310 rfl (fun σ1 hln hr hok hnn => ?_)
  refine jk_iload_n (q := 1314) dL_law_1313 rfl rfl ?_
  refine jk_icmp_ne (q := 1330) (q2 := 1317) dL_law_1314 rfl rfl ⟨by omega, by omega⟩ ⟨by omega, by omega⟩ (fun h => absurd rfl h) (fun _ => ?_)
  refine jk_aload_n (q := 1318) dL_law_1317 rfl rfl ?_
  refine jk_cS1g (q := 1321) (c_state (x := 64) (g := g) (B := B) hz hx hzn hzn2 hln hr hok hnn) jm_L_state jw_1655 rfl rfl (by omega) (by omega) rfl dL_law_1318 rfl (fun v' n' t' σ' ρ' hq => ?_) (fun _ _ _ _ _ h => h.elim)
  obtain ⟨rfl, hn, rfl, rfl, hf⟩ := hq
  simp only [Option.toList_some, List.cons_append, List.nil_append]
  refine jk_iload (q := 1323) dL_law_1321 rfl rfl ?_
  refine jk_icmp_ne (q := 1330) (q2 := 1326) dL_law_1323 rfl rfl (jk_w_in _) (jk_w_in _) (fun h => absurd rfl h) (fun _ => ?_)
  refine jk_iconst (q := 1327) dL_law_1326 rfl ?_
  refine jk_goto (q := 1331) dL_law_1327 rfl ?_
  exact jk_zret rfl (by decide) dL_law_1331 rfl
set_option maxRecDepth 20000 in
set_option maxHeartbeats 4000000 in
theorem jZ13b {G : jk_G} {n : Nat} {t : jk_T} {σ : jk_I} {ρ : jk_P} {B B0 sp e f e0 f0 : Int} {a : Int} {g : Int → Int} {c c0 y z v K : Nat} {H H0 : Nat → Int → Int} {sv9 Bf0 Bf : Int → Int} {Lo : List Int} {t0 : jk_T} {σ0 : jk_I} {ρ0 : jk_P} {rc rs : Nat} (hz : zz_ok G) (hx : zx_ok G) (hv : zv_ok G) (hzp : zp_ok G) (hzq : zq2_ok G) (hzn : zn_ok G) (hzn2 : zn2_ok G) (hs : xs_ok G) (ha : 0 ≤ a ∧ a ≤ 7) (hX0 : pX 64 644 16 (g, c0, H0) B0 1 g Bf0 e0 f0 [] z t0 σ0 ρ0) (hX : pX z v K (zs (Z8 a), c, H) B sp sv9 (Bf) e f Lo n t σ ρ) (hp : kp z t0 σ0 ρ0 t σ ρ) (hzv : z ≤ v) (hB : B ≤ 3100) (hrc : 2670 ≤ rc) (hrs : 21400 ≤ rs) : jk_J G mL_law 1211 [some (.ref 63), some (.ref 64), some (.ref y), some (jI (g 1)), some (jI (jk_w (sv g))), some (jI a), some (.ref z)] [] n t σ ρ rc rs lq_Q jk_no := by
  have hzn9 := hX.2.1.2.1
  have hc9 : c ≤ 8 := hX.1.2.2.1
  have hbc := hs_pc_bd c hc9
  refine jk_aload (q := 1213) dL_law_1211 rfl rfl ?_
  refine jk_iconst (q := 1214) dL_law_1213 rfl ?_
  refine jt_c (q := 1217) (As := [jI (2)]) (k := 5) (a := 2) (b := 0) (c9 := 0) (d := 0) hX (c_X12_exclude (a := 2) hz hx hX.1.1.1 hX.1.1.2.1 hX.1.2.1.1 hX.1.1.2.2.1 hX.1.2.1.2 hX.1.1.2.2.2 (fun j hj => st_2 (hX.1.2.2.2 j hj)) (by decide)) (cl_lit hX.1.2.1.1 (by omega) (c8_e ha)) (by omega) jm_X12_exclude jw_821 rfl rfl rfl rfl (by omega) (by omega) rfl dL_law_1214 rfl (fun σ1 hX1 hF1 => ?_)
  have hp1 := kp_F hp hF1 (Nat.le_refl _) (by omega) (by omega)
  refine jk_iconst (q := 1218) dL_law_1217 rfl ?_
  refine jk_icmp_ne (q := 1307) (q2 := 1221) dL_law_1218 rfl rfl (by first | decide | exact jk_w_in _ | exact ⟨by omega, by omega⟩) (by first | decide | exact jk_w_in _ | exact ⟨by omega, by omega⟩) (fun h => absurd (by first | rfl | omega) h) (fun _ => ?_)
  refine jk_aload (q := 1223) dL_law_1221 rfl rfl ?_
  refine jr_qv (q := 1226) (As := []) (val := jI (2)) hX1 (c_X12_treeCount  hz hx hX1.1.1.1 hX1.1.1.2.1 hX1.1.2.1.1 hX1.1.1.2.2.1 hX1.1.2.1.2 ) (fun E n' t' σ' ρ' h => h.1) rfl (fq_2 (f9_tc ha)) jm_X12_treeCount jw_1009 rfl rfl rfl rfl (by omega) (by omega) rfl dL_law_1223 rfl (fun σ2 hX2 hF2 => ?_)
  have hp2 := kp_F hp1 hF2 (Nat.le_refl _) (by omega) (by omega)
  refine jk_iconst (q := 1227) dL_law_1226 rfl ?_
  refine jk_icmp_ne (q := 1307) (q2 := 1230) dL_law_1227 rfl rfl (by first | decide | exact jk_w_in _ | exact ⟨by omega, by omega⟩) (by first | decide | exact jk_w_in _ | exact ⟨by omega, by omega⟩) (fun h => absurd (by first | rfl | omega) h) (fun _ => ?_)
  refine jk_aload (q := 1232) dL_law_1230 rfl rfl ?_
  refine jk_iconst (q := 1233) dL_law_1232 rfl ?_
  refine jr_qv (q := 1236) (As := [jI (1)]) (val := jI (0)) hX2 (c_X12_hasHeight (p := 1) hz hx hX2.1.1.1 hX2.1.1.2.1 hX2.1.2.1.1 hX2.1.1.2.2.1 hX2.1.2.1.2 (by decide)) (fun E n' t' σ' ρ' h => h.1) (fq_k (f9_hh ha)) (fq_0 (f9_hh ha)) jm_X12_hasHeight jw_855 rfl rfl rfl rfl (by omega) (by omega) rfl dL_law_1233 rfl (fun σ3 hX3 hF3 => ?_)
  have hp3 := kp_F hp2 hF3 (Nat.le_refl _) (by omega) (by omega)
  refine jk_ifN_ne (q := 1239) (by decide) (by decide) dL_law_1236 rfl rfl ?_
  refine jk_aload (q := 1241) dL_law_1239 rfl rfl ?_
  refine jk_bipush (q := 1243) (y := 10) dL_law_1241 rfl (by decide) ?_
  refine jk_iconst (q := 1244) dL_law_1243 rfl ?_
  refine jk_iconst (q := 1245) dL_law_1244 rfl ?_
  refine jk_iconst (q := 1246) dL_law_1245 rfl ?_
  refine jr_a10 (q := 1249) hz hx hzn hzn2 hX3 (f9_h1 ha) jw_1614 rfl rfl (by omega) (by omega) rfl dL_law_1246 rfl (fun n4 σ4 hX4 hF4 => ?_)
  have hm4 := hF4.1
  have hp4 := kp_F hp3 hF4 (Nat.le_refl _) (by omega) (by omega)
  refine jk_ldcV (q := 1251) (x := -200005) jw_1640 (by decide) dL_law_1249 rfl ?_
  refine jk_icmp_ne (q := 1307) (q2 := 1254) dL_law_1251 rfl rfl (by first | decide | exact jk_w_in _ | exact ⟨by omega, by omega⟩) (by first | decide | exact jk_w_in _ | exact ⟨by omega, by omega⟩) (fun h => absurd (by first | rfl | omega) h) (fun _ => ?_)
  refine jk_aload (q := 1256) dL_law_1254 rfl rfl ?_
  refine jk_bipush (q := 1258) (y := 15) dL_law_1256 rfl (by decide) ?_
  refine jk_iconst (q := 1259) dL_law_1258 rfl ?_
  refine jk_iconst (q := 1260) dL_law_1259 rfl ?_
  refine jk_iconst (q := 1261) dL_law_1260 rfl ?_
  refine jr_a15 (q := 1264) hz hx hzn hzn2 hX4 (by omega) (f9_wc ha) jw_1614 rfl rfl (by omega) (by omega) rfl dL_law_1261 rfl (fun n5 σ5 hX5 hF5 => ?_)
  have hm5 := hF5.1
  have hp5 := kp_F hp4 hF5 (Nat.le_refl _) (by omega) (by omega)
  refine jk_ldcV (q := 1266) (x := -200005) jw_1640 (by decide) dL_law_1264 rfl ?_
  refine jk_icmp_ne (q := 1307) (q2 := 1269) dL_law_1266 rfl rfl (by first | decide | exact jk_w_in _ | exact ⟨by omega, by omega⟩) (by first | decide | exact jk_w_in _ | exact ⟨by omega, by omega⟩) (fun h => absurd (by first | rfl | omega) h) (fun _ => ?_)
  refine jk_aload (q := 1271) dL_law_1269 rfl rfl ?_
  refine jk_iconst (q := 1272) dL_law_1271 rfl ?_
  refine jr_qv (q := 1275) (As := [jI (0)]) (val := jI (10)) hX5 (c_X12_lowestColumn (p := 0) hz hx hX5.1.1.1 hX5.1.1.2.1 hX5.1.2.1.1 hX5.1.1.2.2.1 hX5.1.2.1.2 (by decide)) (fun E n' t' σ' ρ' h => h.1) (fq_k (f9_lw ha)) (fq_v (f9_lw ha)) jm_X12_lowestColumn jw_1140 rfl rfl rfl rfl (by omega) (by omega) rfl dL_law_1272 rfl (fun σ6 hX6 hF6 => ?_)
  have hp6 := kp_F hp5 hF6 (Nat.le_refl _) (by omega) (by omega)
  refine jk_bipush (q := 1277) (y := 10) dL_law_1275 rfl (by decide) ?_
  refine jk_icmp_ne (q := 1307) (q2 := 1280) dL_law_1277 rfl rfl (by first | decide | exact jk_w_in _ | exact ⟨by omega, by omega⟩) (by first | decide | exact jk_w_in _ | exact ⟨by omega, by omega⟩) (fun h => absurd (by first | rfl | omega) h) (fun _ => ?_)
  refine jk_aload (q := 1282) dL_law_1280 rfl rfl ?_
  refine jk_iconst (q := 1283) dL_law_1282 rfl ?_
  refine jt_c (q := 1286) (As := [jI (2)]) (k := 6) (a := 2) (b := 0) (c9 := 0) (d := 0) hX6 (c_X12_include (a := 2) hz hx hX6.1.1.1 hX6.1.1.2.1 hX6.1.2.1.1 hX6.1.1.2.2.1 hX6.1.2.1.2 hX6.1.1.2.2.2 (fun j hj => st_2 (hX6.1.2.2.2 j hj)) (by decide)) (cl_lit hX6.1.2.1.1 (by omega) (c9_i ha)) (by omega) jm_X12_include jw_827 rfl rfl rfl rfl (by omega) (by omega) rfl dL_law_1283 rfl (fun σ7 hX7 hF7 => ?_)
  have hp7 := kp_F hp6 hF7 (Nat.le_refl _) (by omega) (by omega)
  refine jk_iconst (q := 1287) dL_law_1286 rfl ?_
  refine jk_icmp_ne (q := 1307) (q2 := 1290) dL_law_1287 rfl rfl (by first | decide | exact jk_w_in _ | exact ⟨by omega, by omega⟩) (by first | decide | exact jk_w_in _ | exact ⟨by omega, by omega⟩) (fun h => absurd (by first | rfl | omega) h) (fun _ => ?_)
  refine jk_aload (q := 1292) dL_law_1290 rfl rfl ?_
  refine jk_iconst (q := 1293) dL_law_1292 rfl ?_
  refine jr_qv (q := 1296) (As := [jI (1)]) (val := jI (1)) hX7 (c_X12_hasHeight (p := 1) hz hx hX7.1.1.1 hX7.1.1.2.1 hX7.1.2.1.1 hX7.1.1.2.2.1 hX7.1.2.1.2 (by decide)) (fun E n' t' σ' ρ' h => h.1) (fq_k (f10_hh ha)) (fq_1 (f10_hh ha)) jm_X12_hasHeight jw_855 rfl rfl rfl rfl (by omega) (by omega) rfl dL_law_1293 rfl (fun σ8 hX8 hF8 => ?_)
  have hp8 := kp_F hp7 hF8 (Nat.le_refl _) (by omega) (by omega)
  refine jk_ifN_eq (q := 1299) (by decide) (by decide) dL_law_1296 rfl rfl ?_
  refine jk_aload (q := 1301) dL_law_1299 rfl rfl ?_
  refine jr_qv (q := 1304) (As := []) (val := jI (1)) hX8 (c_X12_isConsistent  hz hx hX8.1.1.1 hX8.1.1.2.1 hX8.1.2.1.1 hX8.1.1.2.2.1 hX8.1.2.1.2 (by omega)) (fun _ _ _ _ _ h => h.elim) (by decide) rfl jm_X12_isConsistent jw_1179 rfl rfl rfl rfl (by omega) (by omega) rfl dL_law_1301 rfl (fun σ9 hX9 hF9 => ?_)
  have hp9 := kp_F hp8 hF9 (Nat.le_refl _) (by omega) (by omega)
  refine jk_ifT_ne (q := 1309) (by decide) (by decide) dL_law_1304 rfl ?_
  exact jE hz hx hv hzp hzq hzn hzn2 hs (pX_up hX0 (by omega) hp9) (by omega) (by omega)
set_option maxRecDepth 20000 in
set_option maxHeartbeats 4000000 in
theorem jZ13a {G : jk_G} {n : Nat} {t : jk_T} {σ : jk_I} {ρ : jk_P} {B B0 sp e f e0 f0 : Int} {a : Int} {g : Int → Int} {c c0 y z v K : Nat} {H H0 : Nat → Int → Int} {sv9 Bf0 Bf : Int → Int} {Lo : List Int} {t0 : jk_T} {σ0 : jk_I} {ρ0 : jk_P} {rc rs : Nat} (hz : zz_ok G) (hx : zx_ok G) (hv : zv_ok G) (hzp : zp_ok G) (hzq : zq2_ok G) (hzn : zn_ok G) (hzn2 : zn2_ok G) (hs : xs_ok G) (ha : 0 ≤ a ∧ a ≤ 7) (hX0 : pX 64 644 16 (g, c0, H0) B0 1 g Bf0 e0 f0 [] z t0 σ0 ρ0) (hX : pX z v K (zs (Z7 a), c, H) B sp sv9 (Bf) e f Lo n t σ ρ) (hp : kp z t0 σ0 ρ0 t σ ρ) (hzv : z ≤ v) (hB : B ≤ 3000) (hrc : 2740 ≤ rc) (hrs : 21800 ≤ rs) : jk_J G mL_law 1094 [some (.ref 63), some (.ref 64), some (.ref y), some (jI (g 1)), some (jI (jk_w (sv g))), some (jI a), some (.ref z)] [] n t σ ρ rc rs lq_Q jk_no := by
  have hzn9 := hX.2.1.2.1
  have hc9 : c ≤ 8 := hX.1.2.2.1
  have hbc := hs_pc_bd c hc9
  refine jk_aload (q := 1096) dL_law_1094 rfl rfl ?_
  refine jk_iconst (q := 1097) dL_law_1096 rfl ?_
  refine jk_bipush (q := 1099) (y := -93) dL_law_1097 rfl (by decide) ?_
  refine jk_iload (q := 1101) dL_law_1099 rfl rfl ?_
  refine jk_isub (q := 1102) dL_law_1101 rfl ?_
  refine jt_c (q := 1105) (As := [jI (0), jI ((-93 - a))]) (k := 4) (a := 0) (b := (-93 - a)) (c9 := 0) (d := 0) hX (c_X12_addBackwardRun (a := 0) (b := (-93 - a)) hz hx hX.1.1.1 hX.1.1.2.1 hX.1.2.1.1 hX.1.1.2.2.1 hX.1.2.1.2 hX.1.1.2.2.2 (fun j hj => st_2 (hX.1.2.2.2 j hj)) (by decide) ⟨by omega, by omega⟩) (cl_lit hX.1.2.1.1 (by omega) (c7_b ha)) (by omega) jm_X12_addBackwardRun jw_815 rfl rfl rfl rfl (by omega) (by omega) rfl dL_law_1102 rfl (fun σ1 hX1 hF1 => ?_)
  have hp1 := kp_F hp hF1 (Nat.le_refl _) (by omega) (by omega)
  refine jk_bipush (q := 1107) (y := 7) dL_law_1105 rfl (by decide) ?_
  refine jk_icmp_ne (q := 1307) (q2 := 1110) dL_law_1107 rfl rfl (by first | decide | exact jk_w_in _ | exact ⟨by omega, by omega⟩) (by first | decide | exact jk_w_in _ | exact ⟨by omega, by omega⟩) (fun h => absurd (by first | rfl | omega) h) (fun _ => ?_)
  refine jk_aload (q := 1112) dL_law_1110 rfl rfl ?_
  refine jk_iconst (q := 1113) dL_law_1112 rfl ?_
  refine jr_qv (q := 1116) (As := [jI (0)]) (val := jI (0)) hX1 (c_X12_isUsable (p := 0) hz hx hX1.1.1.1 hX1.1.1.2.1 hX1.1.2.1.1 hX1.1.1.2.2.1 hX1.1.2.1.2 (by decide)) (fun E n' t' σ' ρ' h => h.1) (fq_k (f8_us ha)) (fq_0 (f8_us ha)) jm_X12_isUsable jw_961 rfl rfl rfl rfl (by omega) (by omega) rfl dL_law_1113 rfl (fun σ2 hX2 hF2 => ?_)
  have hp2 := kp_F hp1 hF2 (Nat.le_refl _) (by omega) (by omega)
  refine jk_ifN_ne (q := 1119) (by decide) (by decide) dL_law_1116 rfl rfl ?_
  refine jk_aload (q := 1121) dL_law_1119 rfl rfl ?_
  refine jk_iconst (q := 1122) dL_law_1121 rfl ?_
  refine jr_qv (q := 1125) (As := [jI (0)]) (val := jI (7)) hX2 (c_X12_discrepancy (p := 0) hz hx hX2.1.1.1 hX2.1.1.2.1 hX2.1.2.1.1 hX2.1.1.2.2.1 hX2.1.2.1.2 (by decide)) (fun E n' t' σ' ρ' h => h.1) (fq_k (f8_di ha)) (fq_v (f8_di ha)) jm_X12_discrepancy jw_955 rfl rfl rfl rfl (by omega) (by omega) rfl dL_law_1122 rfl (fun σ3 hX3 hF3 => ?_)
  have hp3 := kp_F hp2 hF3 (Nat.le_refl _) (by omega) (by omega)
  refine jk_bipush (q := 1127) (y := 7) dL_law_1125 rfl (by decide) ?_
  refine jk_icmp_ne (q := 1307) (q2 := 1130) dL_law_1127 rfl rfl (by first | decide | exact jk_w_in _ | exact ⟨by omega, by omega⟩) (by first | decide | exact jk_w_in _ | exact ⟨by omega, by omega⟩) (fun h => absurd (by first | rfl | omega) h) (fun _ => ?_)
  refine jk_aload (q := 1132) dL_law_1130 rfl rfl ?_
  refine jk_iconst (q := 1133) dL_law_1132 rfl ?_
  refine jr_qv (q := 1136) (As := [jI (0)]) (val := jI (0)) hX3 (c_X12_lineByDiscrepancy (p := 0) hz hx hX3.1.1.1 hX3.1.1.2.1 hX3.1.2.1.1 hX3.1.1.2.2.1 hX3.1.2.1.2 (by decide)) (fun E n' t' σ' ρ' h => h.1) (fq_k (f8_ld ha)) (fq_v (f8_ld ha)) jm_X12_lineByDiscrepancy jw_973 rfl rfl rfl rfl (by omega) (by omega) rfl dL_law_1133 rfl (fun σ4 hX4 hF4 => ?_)
  have hp4 := kp_F hp3 hF4 (Nat.le_refl _) (by omega) (by omega)
  refine jk_ifN_ne (q := 1139) (by decide) (by decide) dL_law_1136 rfl rfl ?_
  refine jk_aload (q := 1141) dL_law_1139 rfl rfl ?_
  refine jk_iconst (q := 1142) dL_law_1141 rfl ?_
  refine jr_qv (q := 1145) (As := [jI (0)]) (val := jI ((193 + 2 * a) / 2)) hX4 (c_X12_levelledDifference (p := 0) hz hx hX4.1.1.1 hX4.1.1.2.1 hX4.1.2.1.1 hX4.1.1.2.2.1 hX4.1.2.1.2 (by decide)) (fun E n' t' σ' ρ' h => h.1) (fq_k (f8_l0 ha)) (fq_v (f8_l0 ha)) jm_X12_levelledDifference jw_940 rfl rfl rfl rfl (by omega) (by omega) rfl dL_law_1142 rfl (fun σ5 hX5 hF5 => ?_)
  have hp5 := kp_F hp4 hF5 (Nat.le_refl _) (by omega) (by omega)
  refine jk_sipush (q := 1148) (y := 193) dL_law_1145 rfl (by decide) ?_
  refine jk_iconst (q := 1149) dL_law_1148 rfl ?_
  refine jk_iload (q := 1151) dL_law_1149 rfl rfl ?_
  refine jk_imul (q := 1152) dL_law_1151 rfl ?_
  refine jk_iadd (q := 1153) dL_law_1152 rfl ?_
  refine jk_iconst (q := 1154) dL_law_1153 rfl ?_
  refine jk_cS2pF (q := 1157) (c_J9_floorDiv_7cf53 ⟨by omega, by omega⟩ ⟨by decide, by decide⟩) jm_J9_floorDiv_7cf53 jw_1715 rfl rfl rfl dL_law_1154 rfl ?_
  refine jk_icmp_ne (q := 1307) (q2 := 1160) dL_law_1157 rfl rfl (by first | decide | exact jk_w_in _ | exact ⟨by omega, by omega⟩) (by first | decide | exact jk_w_in _ | exact ⟨by omega, by omega⟩) (fun h => absurd (by first | rfl | omega) h) (fun _ => ?_)
  refine jk_aload (q := 1162) dL_law_1160 rfl rfl ?_
  refine jr_qv (q := 1165) (As := []) (val := jI (0)) hX5 (c_X12_loopCount  hz hx hX5.1.1.1 hX5.1.1.2.1 hX5.1.2.1.1 hX5.1.1.2.2.1 hX5.1.2.1.2 ) (fun E n' t' σ' ρ' h => h.1) rfl (fq_2 (f8_lo ha)) jm_X12_loopCount jw_1017 rfl rfl rfl rfl (by omega) (by omega) rfl dL_law_1162 rfl (fun σ6 hX6 hF6 => ?_)
  have hp6 := kp_F hp5 hF6 (Nat.le_refl _) (by omega) (by omega)
  refine jk_ifN_ne (q := 1168) (by decide) (by decide) dL_law_1165 rfl rfl ?_
  refine jk_aload (q := 1170) dL_law_1168 rfl rfl ?_
  refine jr_qv (q := 1173) (As := []) (val := jI (12)) hX6 (c_X12_forestLength  hz hx hX6.1.1.1 hX6.1.1.2.1 hX6.1.2.1.1 hX6.1.1.2.2.1 hX6.1.2.1.2 ) (fun E n' t' σ' ρ' h => h.1) rfl (fq_2 (f8_fl ha)) jm_X12_forestLength jw_985 rfl rfl rfl rfl (by omega) (by omega) rfl dL_law_1170 rfl (fun σ7 hX7 hF7 => ?_)
  have hp7 := kp_F hp6 hF7 (Nat.le_refl _) (by omega) (by omega)
  refine jk_bipush (q := 1175) (y := 12) dL_law_1173 rfl (by decide) ?_
  refine jk_icmp_ne (q := 1307) (q2 := 1178) dL_law_1175 rfl rfl (by first | decide | exact jk_w_in _ | exact ⟨by omega, by omega⟩) (by first | decide | exact jk_w_in _ | exact ⟨by omega, by omega⟩) (fun h => absurd (by first | rfl | omega) h) (fun _ => ?_)
  refine jk_aload (q := 1180) dL_law_1178 rfl rfl ?_
  refine jr_qv (q := 1183) (As := []) (val := jI (1)) hX7 (c_X12_treeCount  hz hx hX7.1.1.1 hX7.1.1.2.1 hX7.1.2.1.1 hX7.1.1.2.2.1 hX7.1.2.1.2 ) (fun E n' t' σ' ρ' h => h.1) rfl (fq_2 (f8_tc ha)) jm_X12_treeCount jw_1009 rfl rfl rfl rfl (by omega) (by omega) rfl dL_law_1180 rfl (fun σ8 hX8 hF8 => ?_)
  have hp8 := kp_F hp7 hF8 (Nat.le_refl _) (by omega) (by omega)
  refine jk_iconst (q := 1184) dL_law_1183 rfl ?_
  refine jk_icmp_ne (q := 1307) (q2 := 1187) dL_law_1184 rfl rfl (by first | decide | exact jk_w_in _ | exact ⟨by omega, by omega⟩) (by first | decide | exact jk_w_in _ | exact ⟨by omega, by omega⟩) (fun h => absurd (by first | rfl | omega) h) (fun _ => ?_)
  refine jk_aload (q := 1189) dL_law_1187 rfl rfl ?_
  refine jr_qv (q := 1192) (As := []) (val := .float (1059760811 : UInt32)) hX8 (c_X12_usableShare  hz hx hX8.1.1.1 hX8.1.1.2.1 hX8.1.2.1.1 hX8.1.1.2.2.1 hX8.1.2.1.2 md_fp_ok) (fun E n' t' σ' ρ' h => h.1) (fq_k (f8_sr ha)) (fq_s (f8_sr ha)) jm_X12_usableShare jw_1174 rfl rfl rfl rfl (by omega) (by omega) rfl dL_law_1189 rfl (fun σ9 hX9 hF9 => ?_)
  have hp9 := kp_F hp8 hF9 (Nat.le_refl _) (by omega) (by omega)
  refine jk_ldcwF (q := 1195) jw_cf dL_law_1192 rfl ?_
  refine jk_fcmpE (q := 1196) (by decide +kernel) dL_law_1195 rfl ?_
  refine jk_ifN_ne (q := 1199) (by decide) (by decide) dL_law_1196 rfl rfl ?_
  refine jk_aload (q := 1201) dL_law_1199 rfl rfl ?_
  refine jr_qv (q := 1204) (As := []) (val := .double (4618441417868443648 : UInt64)) hX9 (c_X12_meanLength  hz hx hX9.1.1.1 hX9.1.1.2.1 hX9.1.2.1.1 hX9.1.1.2.2.1 hX9.1.2.1.2 md_fp_ok) (fun E n' t' σ' ρ' h => h.1) (fq_k (f8_ml ha)) (fq_s (f8_ml ha)) jm_X12_meanLength jw_1149 rfl rfl rfl rfl (by omega) (by omega) rfl dL_law_1201 rfl (fun σ10 hX10 hF10 => ?_)
  have hp10 := kp_F hp9 hF10 (Nat.le_refl _) (by omega) (by omega)
  refine jk_ldc2d (q := 1207) jw_cd dL_law_1204 rfl ?_
  refine jk_dcmpE (q := 1208) (by decide +kernel) dL_law_1207 rfl ?_
  refine jk_ifN_ne (q := 1211) (by decide) (by decide) dL_law_1208 rfl rfl ?_
  exact jZ13b hz hx hv hzp hzq hzn hzn2 hs ha hX0 hX10 hp10 (by omega) (by omega) (by omega) (by omega)
set_option maxRecDepth 20000 in
set_option maxHeartbeats 4000000 in
theorem jZ12c {G : jk_G} {n : Nat} {t : jk_T} {σ : jk_I} {ρ : jk_P} {B B0 sp e f e0 f0 : Int} {a : Int} {g : Int → Int} {c c0 y z v K : Nat} {H H0 : Nat → Int → Int} {sv9 Bf0 Bf : Int → Int} {Lo : List Int} {t0 : jk_T} {σ0 : jk_I} {ρ0 : jk_P} {rc rs : Nat} (hz : zz_ok G) (hx : zx_ok G) (hv : zv_ok G) (hzp : zp_ok G) (hzq : zq2_ok G) (hzn : zn_ok G) (hzn2 : zn2_ok G) (hs : xs_ok G) (ha : 0 ≤ a ∧ a ≤ 7) (hX0 : pX 64 644 16 (g, c0, H0) B0 1 g Bf0 e0 f0 [] z t0 σ0 ρ0) (hX : pX z v K (zs (Z4 a), c, H) B sp sv9 (Bf) e f Lo n t σ ρ) (hp : kp z t0 σ0 ρ0 t σ ρ) (hzv : z ≤ v) (hB : B ≤ 2800) (hrc : 2780 ≤ rc) (hrs : 22050 ≤ rs) : jk_J G mL_law 1017 [some (.ref 63), some (.ref 64), some (.ref y), some (jI (g 1)), some (jI (jk_w (sv g))), some (jI a), some (.ref z)] [] n t σ ρ rc rs lq_Q jk_no := by
  have hzn9 := hX.2.1.2.1
  have hc9 : c ≤ 8 := hX.1.2.2.1
  have hbc := hs_pc_bd c hc9
  refine jk_aload (q := 1019) dL_law_1017 rfl rfl ?_
  refine jk_iconst (q := 1020) dL_law_1019 rfl ?_
  refine jk_sipush (q := 1023) (y := 1200) dL_law_1020 rfl (by decide) ?_
  refine jt_c (q := 1026) (As := [jI (2), jI (1200)]) (k := 1) (a := 2) (b := 1200) (c9 := 0) (d := 0) hX (c_X12_fix (a := 2) (b := 1200) hz hx hX.1.1.1 hX.1.1.2.1 hX.1.2.1.1 hX.1.1.2.2.1 hX.1.2.1.2 hX.1.1.2.2.2 (fun j hj => st_2 (hX.1.2.2.2 j hj)) (by decide) (by decide)) (cl_lit hX.1.2.1.1 (by omega) (c4_f ha)) (by omega) jm_X12_fix jw_803 rfl rfl rfl rfl (by omega) (by omega) rfl dL_law_1023 rfl (fun σ1 hX1 hF1 => ?_)
  have hp1 := kp_F hp hF1 (Nat.le_refl _) (by omega) (by omega)
  refine jk_iconst (q := 1027) dL_law_1026 rfl ?_
  refine jk_icmp_ne (q := 1092) (q2 := 1030) dL_law_1027 rfl rfl (by first | decide | exact jk_w_in _ | exact ⟨by omega, by omega⟩) (by first | decide | exact jk_w_in _ | exact ⟨by omega, by omega⟩) (fun h => absurd (by first | rfl | omega) h) (fun _ => ?_)
  refine jk_aload (q := 1032) dL_law_1030 rfl rfl ?_
  refine jk_iconst (q := 1033) dL_law_1032 rfl ?_
  refine jr_qv (q := 1036) (As := [jI (2)]) (val := jI (a - 52)) hX1 (c_X12_closingError (p := 2) hz hx hX1.1.1.1 hX1.1.1.2.1 hX1.1.2.1.1 hX1.1.1.2.2.1 hX1.1.2.1.2 (by decide)) (fun E n' t' σ' ρ' h => h.1) (fq_k (f6_c2 ha)) (fq_v (f6_c2 ha)) jm_X12_closingError jw_913 rfl rfl rfl rfl (by omega) (by omega) rfl dL_law_1033 rfl (fun σ2 hX2 hF2 => ?_)
  have hp2 := kp_F hp1 hF2 (Nat.le_refl _) (by omega) (by omega)
  refine jk_iload (q := 1038) dL_law_1036 rfl rfl ?_
  refine jk_bipush (q := 1040) (y := 52) dL_law_1038 rfl (by decide) ?_
  refine jk_isub (q := 1041) dL_law_1040 rfl ?_
  refine jk_icmp_ne (q := 1092) (q2 := 1044) dL_law_1041 rfl rfl (by first | decide | exact jk_w_in _ | exact ⟨by omega, by omega⟩) (by first | decide | exact jk_w_in _ | exact ⟨by omega, by omega⟩) (fun h => absurd (by first | rfl | omega) h) (fun _ => ?_)
  refine jk_aload (q := 1046) dL_law_1044 rfl rfl ?_
  refine jk_iconst (q := 1047) dL_law_1046 rfl ?_
  refine jr_qv (q := 1050) (As := [jI (0)]) (val := jI (0)) hX2 (c_X12_closingError (p := 0) hz hx hX2.1.1.1 hX2.1.1.2.1 hX2.1.2.1.1 hX2.1.1.2.2.1 hX2.1.2.1.2 (by decide)) (fun E n' t' σ' ρ' h => h.1) (fq_k (f6_c0 ha)) (fq_v (f6_c0 ha)) jm_X12_closingError jw_913 rfl rfl rfl rfl (by omega) (by omega) rfl dL_law_1047 rfl (fun σ3 hX3 hF3 => ?_)
  have hp3 := kp_F hp2 hF3 (Nat.le_refl _) (by omega) (by omega)
  refine jk_ifN_ne (q := 1053) (by decide) (by decide) dL_law_1050 rfl rfl ?_
  refine jk_aload (q := 1055) dL_law_1053 rfl rfl ?_
  refine jk_iconst (q := 1056) dL_law_1055 rfl ?_
  refine jr_qv (q := 1059) (As := [jI (2)]) (val := jI (1200)) hX3 (c_X12_height (p := 2) hz hx hX3.1.1.1 hX3.1.1.2.1 hX3.1.2.1.1 hX3.1.1.2.2.1 hX3.1.2.1.2 (by decide)) (fun E n' t' σ' ρ' h => h.1) (fq_k (f6_h2 ha)) (fq_v (f6_h2 ha)) jm_X12_height jw_874 rfl rfl rfl rfl (by omega) (by omega) rfl dL_law_1056 rfl (fun σ4 hX4 hF4 => ?_)
  have hp4 := kp_F hp3 hF4 (Nat.le_refl _) (by omega) (by omega)
  refine jk_sipush (q := 1062) (y := 1200) dL_law_1059 rfl (by decide) ?_
  refine jk_icmp_ne (q := 1092) (q2 := 1065) dL_law_1062 rfl rfl (by first | decide | exact jk_w_in _ | exact ⟨by omega, by omega⟩) (by first | decide | exact jk_w_in _ | exact ⟨by omega, by omega⟩) (fun h => absurd (by first | rfl | omega) h) (fun _ => ?_)
  refine jk_aload (q := 1067) dL_law_1065 rfl rfl ?_
  refine jk_iconst (q := 1068) dL_law_1067 rfl ?_
  refine jr_qv (q := 1071) (As := [jI (1)]) (val := jI (1099 + a)) hX4 (c_X12_height (p := 1) hz hx hX4.1.1.1 hX4.1.1.2.1 hX4.1.2.1.1 hX4.1.1.2.2.1 hX4.1.2.1.2 (by decide)) (fun E n' t' σ' ρ' h => h.1) (fq_k (f6_h1 ha)) (fq_v (f6_h1 ha)) jm_X12_height jw_874 rfl rfl rfl rfl (by omega) (by omega) rfl dL_law_1068 rfl (fun σ5 hX5 hF5 => ?_)
  have hp5 := kp_F hp4 hF5 (Nat.le_refl _) (by omega) (by omega)
  refine jk_sipush (q := 1074) (y := 1099) dL_law_1071 rfl (by decide) ?_
  refine jk_iload (q := 1076) dL_law_1074 rfl rfl ?_
  refine jk_iadd (q := 1077) dL_law_1076 rfl ?_
  refine jk_icmp_ne (q := 1092) (q2 := 1080) dL_law_1077 rfl rfl (by first | decide | exact jk_w_in _ | exact ⟨by omega, by omega⟩) (by first | decide | exact jk_w_in _ | exact ⟨by omega, by omega⟩) (fun h => absurd (by first | rfl | omega) h) (fun _ => ?_)
  refine jk_aload (q := 1082) dL_law_1080 rfl rfl ?_
  refine jk_iconst (q := 1083) dL_law_1082 rfl ?_
  refine jt_c (q := 1086) (As := [jI (2)]) (k := 2) (a := 2) (b := 0) (c9 := 0) (d := 0) hX5 (c_X12_release (a := 2) hz hx hX5.1.1.1 hX5.1.1.2.1 hX5.1.2.1.1 hX5.1.1.2.2.1 hX5.1.2.1.2 hX5.1.1.2.2.2 (fun j hj => st_2 (hX5.1.2.2.2 j hj)) (by decide)) (cl_lit hX5.1.2.1.1 (by omega) (c6_r ha)) (by omega) jm_X12_release jw_809 rfl rfl rfl rfl (by omega) (by omega) rfl dL_law_1083 rfl (fun σ6 hX6 hF6 => ?_)
  have hp6 := kp_F hp5 hF6 (Nat.le_refl _) (by omega) (by omega)
  refine jk_sipush (q := 1089) (y := 1200) dL_law_1086 rfl (by decide) ?_
  refine jk_icmp_eq (q := 1094) (q2 := 1092) dL_law_1089 rfl rfl (by first | decide | exact jk_w_in _ | exact ⟨by omega, by omega⟩) (by first | decide | exact jk_w_in _ | exact ⟨by omega, by omega⟩) (fun _ => ?_) (fun h => absurd (by first | rfl | omega) h)
  exact jZ13a hz hx hv hzp hzq hzn hzn2 hs ha hX0 hX6 hp6 (by omega) (by omega) (by omega) (by omega)
set_option maxRecDepth 20000 in
set_option maxHeartbeats 4000000 in
theorem jZ12b {G : jk_G} {n : Nat} {t : jk_T} {σ : jk_I} {ρ : jk_P} {B B0 sp e f e0 f0 : Int} {a : Int} {g : Int → Int} {c c0 y z v K : Nat} {H H0 : Nat → Int → Int} {sv9 Bf0 Bf : Int → Int} {Lo : List Int} {t0 : jk_T} {σ0 : jk_I} {ρ0 : jk_P} {rc rs : Nat} (hz : zz_ok G) (hx : zx_ok G) (hv : zv_ok G) (hzp : zp_ok G) (hzq : zq2_ok G) (hzn : zn_ok G) (hzn2 : zn2_ok G) (hs : xs_ok G) (ha : 0 ≤ a ∧ a ≤ 7) (hX0 : pX 64 644 16 (g, c0, H0) B0 1 g Bf0 e0 f0 [] z t0 σ0 ρ0) (hX : pX z v K (zs (Z4 a), c, H) B sp sv9 (Bf) e f Lo n t σ ρ) (hp : kp z t0 σ0 ρ0 t σ ρ) (hzv : z ≤ v) (hB : B ≤ 2700) (hrc : 2800 ≤ rc) (hrs : 22170 ≤ rs) : jk_J G mL_law 981 [some (.ref 63), some (.ref 64), some (.ref y), some (jI (g 1)), some (jI (jk_w (sv g))), some (jI a), some (.ref z)] [] n t σ ρ rc rs lq_Q jk_no := by
  have hzn9 := hX.2.1.2.1
  have hc9 : c ≤ 8 := hX.1.2.2.1
  have hbc := hs_pc_bd c hc9
  refine jk_aload (q := 983) dL_law_981 rfl rfl ?_
  refine jt_c (q := 986) (As := []) (k := 8) (a := 0) (b := 0) (c9 := 0) (d := 0) hX (c_X12_resetCorrections  hz hx hX.1.1.1 hX.1.1.2.1 hX.1.2.1.1 hX.1.1.2.2.1 hX.1.2.1.2 hX.1.1.2.2.2 (fun j hj => st_2 (hX.1.2.2.2 j hj)) ) (cl_lit hX.1.2.1.1 (by omega) (c4_r ha)) (by omega) jm_X12_resetCorrections jw_839 rfl rfl rfl rfl (by omega) (by omega) rfl dL_law_983 rfl (fun σ1 hX1 hF1 => ?_)
  have hp1 := kp_F hp hF1 (Nat.le_refl _) (by omega) (by omega)
  refine jk_iconst (q := 987) dL_law_986 rfl ?_
  refine jk_icmp_ne (q := 1092) (q2 := 990) dL_law_987 rfl rfl (by first | decide | exact jk_w_in _ | exact ⟨by omega, by omega⟩) (by first | decide | exact jk_w_in _ | exact ⟨by omega, by omega⟩) (fun h => absurd (by first | rfl | omega) h) (fun _ => ?_)
  refine jk_aload (q := 992) dL_law_990 rfl rfl ?_
  refine jk_iconst (q := 993) dL_law_992 rfl ?_
  refine jr_qv (q := 996) (As := [jI (2)]) (val := jI (3)) hX1 (c_X12_misclosure (p := 2) hz hx hX1.1.1.1 hX1.1.1.2.1 hX1.1.2.1.1 hX1.1.1.2.2.1 hX1.1.2.1.2 (by decide)) (fun E n' t' σ' ρ' h => h.1) (fq_k (f3_mc ha)) (fq_v (f3_mc ha)) jm_X12_misclosure jw_1050 rfl rfl rfl rfl (by omega) (by omega) rfl dL_law_993 rfl (fun σ2 hX2 hF2 => ?_)
  have hp2 := kp_F hp1 hF2 (Nat.le_refl _) (by omega) (by omega)
  refine jk_iconst (q := 997) dL_law_996 rfl ?_
  refine jk_icmp_ne (q := 1092) (q2 := 1000) dL_law_997 rfl rfl (by first | decide | exact jk_w_in _ | exact ⟨by omega, by omega⟩) (by first | decide | exact jk_w_in _ | exact ⟨by omega, by omega⟩) (fun h => absurd (by first | rfl | omega) h) (fun _ => ?_)
  refine jk_aload (q := 1002) dL_law_1000 rfl rfl ?_
  refine jt_undo (q := 1005) hz hx hX2 (by omega) jw_1575 rfl rfl (by omega) (by omega) rfl dL_law_1002 rfl (fun σ3 hX3 hF3 => ?_)
  replace hX3 := pX_g hX3 (hs_1 hc9)
  have hp3 := kp_F hp2 hF3 (Nat.le_refl _) (by omega) (by omega)
  refine jk_if_lt (q := 1092) (q2 := 1008) dL_law_1005 rfl rfl (by first | decide | exact jk_w_in _ | exact ⟨by omega, by omega⟩) (fun h => absurd h (by omega)) (fun _ => ?_)
  refine jk_aload (q := 1010) dL_law_1008 rfl rfl ?_
  refine jk_iconst (q := 1011) dL_law_1010 rfl ?_
  refine jr_qv (q := 1014) (As := [jI (2)]) (val := jI (0)) hX3 (c_X12_misclosure (p := 2) hz hx hX3.1.1.1 hX3.1.1.2.1 hX3.1.2.1.1 hX3.1.1.2.2.1 hX3.1.2.1.2 (by decide)) (fun E n' t' σ' ρ' h => h.1) (fq_k (f4_mc ha)) (fq_v (f4_mc ha)) jm_X12_misclosure jw_1050 rfl rfl rfl rfl (by omega) (by omega) rfl dL_law_1011 rfl (fun σ4 hX4 hF4 => ?_)
  have hp4 := kp_F hp3 hF4 (Nat.le_refl _) (by omega) (by omega)
  refine jk_ifN_ne (q := 1017) (by decide) (by decide) dL_law_1014 rfl rfl ?_
  exact jZ12c hz hx hv hzp hzq hzn hzn2 hs ha hX0 hX4 hp4 (by omega) (by omega) (by omega) (by omega)
set_option maxRecDepth 20000 in
set_option maxHeartbeats 4000000 in
theorem jZ12a {G : jk_G} {n : Nat} {t : jk_T} {σ : jk_I} {ρ : jk_P} {B B0 sp e f e0 f0 : Int} {a : Int} {g : Int → Int} {c c0 y z v K : Nat} {H H0 : Nat → Int → Int} {sv9 Bf0 Bf : Int → Int} {Lo : List Int} {t0 : jk_T} {σ0 : jk_I} {ρ0 : jk_P} {rc rs : Nat} (hz : zz_ok G) (hx : zx_ok G) (hv : zv_ok G) (hzp : zp_ok G) (hzq : zq2_ok G) (hzn : zn_ok G) (hzn2 : zn2_ok G) (hs : xs_ok G) (ha : 0 ≤ a ∧ a ≤ 7) (hX0 : pX 64 644 16 (g, c0, H0) B0 1 g Bf0 e0 f0 [] z t0 σ0 ρ0) (hX : pX z v K (zs (Z3 a), c, H) B sp sv9 (Bf) e f Lo n t σ ρ) (hp : kp z t0 σ0 ρ0 t σ ρ) (hzv : z ≤ v) (hB : B ≤ 2600) (hrc : 2840 ≤ rc) (hrs : 22420 ≤ rs) : jk_J G mL_law 913 [some (.ref 63), some (.ref 64), some (.ref y), some (jI (g 1)), some (jI (jk_w (sv g))), some (jI a), some (.ref z)] [] n t σ ρ rc rs lq_Q jk_no := by
  have hzn9 := hX.2.1.2.1
  have hc9 : c ≤ 8 := hX.1.2.2.1
  have hbc := hs_pc_bd c hc9
  refine jk_aload (q := 915) dL_law_913 rfl rfl ?_
  refine jk_iconst (q := 916) dL_law_915 rfl ?_
  refine jt_c (q := 919) (As := [jI (2)]) (k := 7) (a := 2) (b := 0) (c9 := 0) (d := 0) hX (c_X12_shareMisclosure (a := 2) hz hx hX.1.1.1 hX.1.1.2.1 hX.1.2.1.1 hX.1.1.2.2.1 hX.1.2.1.2 hX.1.1.2.2.2 (fun j hj => st_2 (hX.1.2.2.2 j hj)) (by decide)) (cl_lit hX.1.2.1.1 (by omega) (c3_s ha)) (by omega) jm_X12_shareMisclosure jw_833 rfl rfl rfl rfl (by omega) (by omega) rfl dL_law_916 rfl (fun σ1 hX1 hF1 => ?_)
  have hp1 := kp_F hp hF1 (Nat.le_refl _) (by omega) (by omega)
  refine jk_iconst (q := 920) dL_law_919 rfl ?_
  refine jk_icmp_ne (q := 1092) (q2 := 923) dL_law_920 rfl rfl (by first | decide | exact jk_w_in _ | exact ⟨by omega, by omega⟩) (by first | decide | exact jk_w_in _ | exact ⟨by omega, by omega⟩) (fun h => absurd (by first | rfl | omega) h) (fun _ => ?_)
  refine jk_aload (q := 925) dL_law_923 rfl rfl ?_
  refine jk_iconst (q := 926) dL_law_925 rfl ?_
  refine jr_qv (q := 929) (As := [jI (2)]) (val := jI (0)) hX1 (c_X12_misclosure (p := 2) hz hx hX1.1.1.1 hX1.1.1.2.1 hX1.1.2.1.1 hX1.1.1.2.2.1 hX1.1.2.1.2 (by decide)) (fun E n' t' σ' ρ' h => h.1) (fq_k (f4_mc ha)) (fq_v (f4_mc ha)) jm_X12_misclosure jw_1050 rfl rfl rfl rfl (by omega) (by omega) rfl dL_law_926 rfl (fun σ2 hX2 hF2 => ?_)
  have hp2 := kp_F hp1 hF2 (Nat.le_refl _) (by omega) (by omega)
  refine jk_ifN_ne (q := 932) (by decide) (by decide) dL_law_929 rfl rfl ?_
  refine jk_aload (q := 934) dL_law_932 rfl rfl ?_
  refine jk_iconst (q := 935) dL_law_934 rfl ?_
  refine jr_qv (q := 938) (As := [jI (0)]) (val := jI (-1)) hX2 (c_X12_correction (p := 0) hz hx hX2.1.1.1 hX2.1.1.2.1 hX2.1.2.1.1 hX2.1.1.2.2.1 hX2.1.2.1.2 (by decide)) (fun E n' t' σ' ρ' h => h.1) (fq_k (f4_c0 ha)) (fq_v (f4_c0 ha)) jm_X12_correction jw_951 rfl rfl rfl rfl (by omega) (by omega) rfl dL_law_935 rfl (fun σ3 hX3 hF3 => ?_)
  have hp3 := kp_F hp2 hF3 (Nat.le_refl _) (by omega) (by omega)
  refine jk_iconst (q := 939) dL_law_938 rfl ?_
  refine jk_icmp_ne (q := 1092) (q2 := 942) dL_law_939 rfl rfl (by first | decide | exact jk_w_in _ | exact ⟨by omega, by omega⟩) (by first | decide | exact jk_w_in _ | exact ⟨by omega, by omega⟩) (fun h => absurd (by first | rfl | omega) h) (fun _ => ?_)
  refine jk_aload (q := 944) dL_law_942 rfl rfl ?_
  refine jk_iconst (q := 945) dL_law_944 rfl ?_
  refine jr_qv (q := 948) (As := [jI (2)]) (val := jI (-1)) hX3 (c_X12_correction (p := 2) hz hx hX3.1.1.1 hX3.1.1.2.1 hX3.1.2.1.1 hX3.1.1.2.2.1 hX3.1.2.1.2 (by decide)) (fun E n' t' σ' ρ' h => h.1) (fq_k (f4_c2 ha)) (fq_v (f4_c2 ha)) jm_X12_correction jw_951 rfl rfl rfl rfl (by omega) (by omega) rfl dL_law_945 rfl (fun σ4 hX4 hF4 => ?_)
  have hp4 := kp_F hp3 hF4 (Nat.le_refl _) (by omega) (by omega)
  refine jk_iconst (q := 949) dL_law_948 rfl ?_
  refine jk_icmp_ne (q := 1092) (q2 := 952) dL_law_949 rfl rfl (by first | decide | exact jk_w_in _ | exact ⟨by omega, by omega⟩) (by first | decide | exact jk_w_in _ | exact ⟨by omega, by omega⟩) (fun h => absurd (by first | rfl | omega) h) (fun _ => ?_)
  refine jk_aload (q := 954) dL_law_952 rfl rfl ?_
  refine jk_iconst (q := 955) dL_law_954 rfl ?_
  refine jr_qv (q := 958) (As := [jI (2)]) (val := jI (1148 + a)) hX4 (c_X12_height (p := 2) hz hx hX4.1.1.1 hX4.1.1.2.1 hX4.1.2.1.1 hX4.1.1.2.2.1 hX4.1.2.1.2 (by decide)) (fun E n' t' σ' ρ' h => h.1) (fq_k (f4_h2 ha)) (fq_v (f4_h2 ha)) jm_X12_height jw_874 rfl rfl rfl rfl (by omega) (by omega) rfl dL_law_955 rfl (fun σ5 hX5 hF5 => ?_)
  have hp5 := kp_F hp4 hF5 (Nat.le_refl _) (by omega) (by omega)
  refine jk_sipush (q := 961) (y := 1148) dL_law_958 rfl (by decide) ?_
  refine jk_iload (q := 963) dL_law_961 rfl rfl ?_
  refine jk_iadd (q := 964) dL_law_963 rfl ?_
  refine jk_icmp_ne (q := 1092) (q2 := 967) dL_law_964 rfl rfl (by first | decide | exact jk_w_in _ | exact ⟨by omega, by omega⟩) (by first | decide | exact jk_w_in _ | exact ⟨by omega, by omega⟩) (fun h => absurd (by first | rfl | omega) h) (fun _ => ?_)
  refine jk_aload (q := 969) dL_law_967 rfl rfl ?_
  refine jk_iconst (q := 970) dL_law_969 rfl ?_
  refine jr_qv (q := 973) (As := [jI (0)]) (val := jI (100 + a)) hX5 (c_X12_levelledDifference (p := 0) hz hx hX5.1.1.1 hX5.1.1.2.1 hX5.1.2.1.1 hX5.1.1.2.2.1 hX5.1.2.1.2 (by decide)) (fun E n' t' σ' ρ' h => h.1) (fq_k (f4_l0 ha)) (fq_v (f4_l0 ha)) jm_X12_levelledDifference jw_940 rfl rfl rfl rfl (by omega) (by omega) rfl dL_law_970 rfl (fun σ6 hX6 hF6 => ?_)
  have hp6 := kp_F hp5 hF6 (Nat.le_refl _) (by omega) (by omega)
  refine jk_bipush (q := 975) (y := 100) dL_law_973 rfl (by decide) ?_
  refine jk_iload (q := 977) dL_law_975 rfl rfl ?_
  refine jk_iadd (q := 978) dL_law_977 rfl ?_
  refine jk_icmp_ne (q := 1092) (q2 := 981) dL_law_978 rfl rfl (by first | decide | exact jk_w_in _ | exact ⟨by omega, by omega⟩) (by first | decide | exact jk_w_in _ | exact ⟨by omega, by omega⟩) (fun h => absurd (by first | rfl | omega) h) (fun _ => ?_)
  exact jZ12b hz hx hv hzp hzq hzn hzn2 hs ha hX0 hX6 hp6 (by omega) (by omega) (by omega) (by omega)
set_option maxRecDepth 20000 in
set_option maxHeartbeats 4000000 in
theorem jZ11c {G : jk_G} {n : Nat} {t : jk_T} {σ : jk_I} {ρ : jk_P} {B B0 sp e f e0 f0 : Int} {a : Int} {g : Int → Int} {c c0 y z v K : Nat} {H H0 : Nat → Int → Int} {sv9 Bf0 Bf : Int → Int} {Lo : List Int} {t0 : jk_T} {σ0 : jk_I} {ρ0 : jk_P} {rc rs : Nat} (hz : zz_ok G) (hx : zx_ok G) (hv : zv_ok G) (hzp : zp_ok G) (hzq : zq2_ok G) (hzn : zn_ok G) (hzn2 : zn2_ok G) (hs : xs_ok G) (ha : 0 ≤ a ∧ a ≤ 7) (hX0 : pX 64 644 16 (g, c0, H0) B0 1 g Bf0 e0 f0 [] z t0 σ0 ρ0) (hX : pX z v K (zs (Z3 a), c, H) B sp sv9 (Bf) e f Lo n t σ ρ) (hp : kp z t0 σ0 ρ0 t σ ρ) (hzv : z ≤ v) (hB : B ≤ 2600) (hrc : 2900 ≤ rc) (hrs : 22920 ≤ rs) : jk_J G mL_law 894 [some (.ref 63), some (.ref 64), some (.ref y), some (jI (g 1)), some (jI (jk_w (sv g))), some (jI a), some (.ref z)] [] n t σ ρ rc rs lq_Q jk_no := by
  have hzn9 := hX.2.1.2.1
  have hc9 : c ≤ 8 := hX.1.2.2.1
  have hbc := hs_pc_bd c hc9
  refine jk_aload (q := 896) dL_law_894 rfl rfl ?_
  refine jk_aload (q := 898) dL_law_896 rfl rfl ?_
  refine jk_iconst (q := 899) dL_law_898 rfl ?_
  refine jr_renderBenchmark (q := 902) (L := zq_319) hz hx hzp hX (by decide) (f3_c0 ha) (f3_rb ha) jw_1499 rfl rfl (by omega) (by omega) rfl dL_law_899 rfl (fun w1 K1 n1 t1 σ1 ρ1 hw1 hm1 hX1 hF1 => ?_)
  have hp1 := kp_F hp hF1 (Nat.le_refl _) (by omega) (by omega)
  obtain ⟨a2, b2, hR2, hso2⟩ := xs_319 hs
  refine jk_ldcwS (q := 905) hR2 dL_law_902 rfl ?_
  refine jr_isLine (q := 908) hz hx hv hX1 (fun _ _ => Or.inl ⟨_, hso2⟩) jw_1686 rfl rfl (by omega) (by omega) rfl dL_law_905 rfl (fun σ3 hX3 hF3 => ?_)
  have hp3 := kp_F hp1 hF3 (Nat.le_refl _) (by omega) (by omega)
  refine jk_ifT_ne (q := 913) (by decide) (by decide) dL_law_908 rfl ?_
  exact jZ12a hz hx hv hzp hzq hzn hzn2 hs ha hX0 hX3 hp3 (by omega) (by omega) (by omega) (by omega)
set_option maxRecDepth 20000 in
set_option maxHeartbeats 4000000 in
theorem jZ11b {G : jk_G} {n : Nat} {t : jk_T} {σ : jk_I} {ρ : jk_P} {B B0 sp e f e0 f0 : Int} {a : Int} {g : Int → Int} {c c0 y z v K : Nat} {H H0 : Nat → Int → Int} {sv9 Bf0 Bf : Int → Int} {Lo : List Int} {t0 : jk_T} {σ0 : jk_I} {ρ0 : jk_P} {rc rs : Nat} (hz : zz_ok G) (hx : zx_ok G) (hv : zv_ok G) (hzp : zp_ok G) (hzq : zq2_ok G) (hzn : zn_ok G) (hzn2 : zn2_ok G) (hs : xs_ok G) (ha : 0 ≤ a ∧ a ≤ 7) (hX0 : pX 64 644 16 (g, c0, H0) B0 1 g Bf0 e0 f0 [] z t0 σ0 ρ0) (hX : pX z v K (zs (Z3 a), c, H) B sp sv9 (Bf) e f Lo n t σ ρ) (hp : kp z t0 σ0 ρ0 t σ ρ) (hzv : z ≤ v) (hB : B ≤ 2600) (hrc : 2970 ≤ rc) (hrs : 25420 ≤ rs) : jk_J G mL_law 849 [some (.ref 63), some (.ref 64), some (.ref y), some (jI (g 1)), some (jI (jk_w (sv g))), some (jI a), some (.ref z)] [] n t σ ρ rc rs lq_Q jk_no := by
  have hzn9 := hX.2.1.2.1
  have hc9 : c ≤ 8 := hX.1.2.2.1
  have hbc := hs_pc_bd c hc9
  refine jk_aload (q := 851) dL_law_849 rfl rfl ?_
  refine jk_aload (q := 853) dL_law_851 rfl rfl ?_
  refine jk_iconst (q := 854) dL_law_853 rfl ?_
  refine jr_renderLine (q := 857) (L := zt3 a) hz hx hzp hX (by decide) (f3_c1 ha) (f3_rl ha) jw_1195 rfl rfl (by omega) (by omega) rfl dL_law_854 rfl (fun w1 K1 n1 t1 σ1 ρ1 hw1 hm1 hX1 hF1 => ?_)
  have hp1 := kp_F hp hF1 (Nat.le_refl _) (by omega) (by omega)
  have hcl14 : (jk_cl 14).2.2.1 = 4 := rfl
  have hzb := hX1.2.1
  have hn9 := hzb.2.1
  refine jk_new (q := 860) (k := 14) jw_1716 jw_343 jw_12 (by omega) (by omega) dL_law_857 rfl ?_
  refine jk_dup (q := 861) dL_law_860 rfl rfl ?_
  refine jk_cI0g (q := 864) (c_J4_init2 (b := n1) hz (if_pos rfl) rfl) jm_J4_init_da8c8 jw_1717 rfl rfl (by omega) (by omega) rfl dL_law_861 rfl (fun v' n' t' σ' ρ' hq => ?_) (fun _ _ _ _ _ h => h.elim)
  obtain ⟨rfl, rfl, hfr9, hbu9, hs91, hs92⟩ := hq
  simp only [Option.toList_none, List.nil_append]
  have hb0 := be_new hbu9 (by rw [hs91, jk_set_ne _ _ (by decide)]; unfold jk_zr; exact if_pos rfl) (fun j => by rw [hs92])
  have hq0 := fun a (h : a < n1) => (⟨(hfr9 a h).1.trans (if_neg (by omega)), (hfr9 a h).2.1.trans (jk_zr_row _ _ (by omega)), (hfr9 a h).2.2.trans (jk_zr_row _ _ (by omega))⟩ : _ ∧ _ ∧ _)
  have hq0 : kp n1 _ _ _ _ _ _ := hq0
  obtain ⟨a2, b2, hR2, hso2⟩ := xs_308 hs
  refine jk_ldcwS (q := 867) hR2 dL_law_864 rfl ?_
  refine jk_cV1g (q := 870) (k := 14) (c_be_appendS hb0 hz hso2 hzp hzq (by omega) (by omega) (by decide)) jm_J4_append_15ec4 jw_1718 rfl hb0.1.1 rfl rfl (by omega) (by omega) rfl dL_law_867 rfl (fun v' nb1 t' σ' ρ' hq => ?_) (fun _ _ _ _ _ h => h.elim)
  obtain ⟨rfl, wb1, Kb1, hb1, -, hfb1⟩ := hq
  have hq1 := kp_B hq0 hfb1 (Nat.le_refl _) (by omega) (by omega)
  obtain ⟨ob1, pb1, rb1, -⟩ := hfb1
  simp only [Option.toList_some, List.cons_append, List.nil_append]
  refine jk_sipush (q := 873) (y := 147) dL_law_870 rfl (by decide) ?_
  refine jk_iload (q := 875) dL_law_873 rfl rfl ?_
  refine jk_iadd (q := 876) dL_law_875 rfl ?_
  refine jk_cV1g (q := 879) (k := 14) (c_be_appendI hb1 hz hzp (by omega) (by omega) ⟨by omega, by omega⟩ (zl_3 ha).2.1) jm_J4_append_bf812 jw_1719 rfl hb1.1.1 rfl rfl (by omega) (by omega) rfl dL_law_876 rfl (fun v' nb2 t' σ' ρ' hq => ?_) (fun _ _ _ _ _ h => h.elim)
  obtain ⟨rfl, wb2, Kb2, hb2, -, hfb2⟩ := hq
  have hq2 := kp_B hq1 hfb2 (Nat.le_refl _) (by omega) (by omega)
  obtain ⟨ob2, pb2, rb2, -⟩ := hfb2
  simp only [Option.toList_some, List.cons_append, List.nil_append]
  obtain ⟨a3, b3, hR3, hso3⟩ := xs_310 hs
  refine jk_ldcwS (q := 882) hR3 dL_law_879 rfl ?_
  refine jk_cV1g (q := 885) (k := 14) (c_be_appendS hb2 hz hso3 hzp hzq (by omega) (by omega) (zl_3 ha).2.2) jm_J4_append_15ec4 jw_1718 rfl hb2.1.1 rfl rfl (by omega) (by omega) rfl dL_law_882 rfl (fun v' nb3 t' σ' ρ' hq => ?_) (fun _ _ _ _ _ h => h.elim)
  obtain ⟨rfl, wb3, Kb3, hb3, -, hfb3⟩ := hq
  have hq3 := kp_B hq2 hfb3 (Nat.le_refl _) (by omega) (by omega)
  obtain ⟨ob3, pb3, rb3, -⟩ := hfb3
  simp only [Option.toList_some, List.cons_append, List.nil_append]
  refine jk_cV0g (q := 888) (k := 14) (c_be_toString hb3 hz (by omega) (by omega)) jm_J4_toString_0e30d jw_1720 rfl hb3.1.1 rfl rfl (by omega) (by omega) rfl dL_law_885 rfl (fun v' n' t' σ' ρ' hq => ?_) (fun _ _ _ _ _ h => h.elim)
  obtain ⟨rfl, rfl, hfr8, hsm⟩ := hq
  have hq4 := kp_t hq3 (show kp _ _ _ _ _ _ _ from hfr8) (by omega)
  simp only [Option.toList_some, List.cons_append, List.nil_append]
  have hXs := pX_up (n' := nb3 + 4) hX1 (by omega) hq4
  have hps := kp_t hp1 hq4 (by omega)
  refine jr_isLine (q := 891) hz hx hv hXs (fun _ hf => Or.inr ⟨_, sm_fr hsm hf (by omega) (by omega)⟩) jw_1686 rfl rfl (by omega) (by omega) rfl dL_law_888 rfl (fun σ4 hX4 hF4 => ?_)
  have hp4 := kp_F hps hF4 (Nat.le_refl _) (by omega) (by omega)
  refine jk_ifN_eq (q := 894) (by decide) (by decide) dL_law_891 rfl rfl ?_
  exact jZ11c hz hx hv hzp hzq hzn hzn2 hs ha hX0 hX4 hp4 (by omega) (by omega) (by omega) (by omega)
set_option maxRecDepth 20000 in
set_option maxHeartbeats 4000000 in
theorem jZ11a {G : jk_G} {n : Nat} {t : jk_T} {σ : jk_I} {ρ : jk_P} {B B0 sp e f e0 f0 : Int} {a : Int} {g : Int → Int} {c c0 y z v K : Nat} {H H0 : Nat → Int → Int} {sv9 Bf0 Bf : Int → Int} {Lo : List Int} {t0 : jk_T} {σ0 : jk_I} {ρ0 : jk_P} {rc rs : Nat} (hz : zz_ok G) (hx : zx_ok G) (hv : zv_ok G) (hzp : zp_ok G) (hzq : zq2_ok G) (hzn : zn_ok G) (hzn2 : zn2_ok G) (hs : xs_ok G) (ha : 0 ≤ a ∧ a ≤ 7) (hX0 : pX 64 644 16 (g, c0, H0) B0 1 g Bf0 e0 f0 [] z t0 σ0 ρ0) (hX : pX z v K (zs (Z2 a), c, H) B sp sv9 (Bf) e f Lo n t σ ρ) (hp : kp z t0 σ0 ρ0 t σ ρ) (hzv : z ≤ v) (hB : B ≤ 2500) (hrc : 3030 ≤ rc) (hrs : 25820 ≤ rs) : jk_J G mL_law 744 [some (.ref 63), some (.ref 64), some (.ref y), some (jI (g 1)), some (jI (jk_w (sv g))), some (jI a), some (.ref z)] [] n t σ ρ rc rs lq_Q jk_no := by
  have hzn9 := hX.2.1.2.1
  have hc9 : c ≤ 8 := hX.1.2.2.1
  have hbc := hs_pc_bd c hc9
  refine jk_aload (q := 746) dL_law_744 rfl rfl ?_
  refine jk_iconst (q := 747) dL_law_746 rfl ?_
  refine jk_iconst (q := 748) dL_law_747 rfl ?_
  refine jr_qv (q := 751) (As := [jI (0), jI (5)]) (val := jI (1050 + a)) hX (c_X12_ground (p := 0) (c := 5) hz hx hX.1.1.1 hX.1.1.2.1 hX.1.2.1.1 hX.1.1.2.2.1 hX.1.2.1.2 (by decide) (by decide)) (fun E n' t' σ' ρ' h => h.1) (fq_k (f2_g5 ha)) (fq_v (f2_g5 ha)) jm_X12_ground jw_1072 rfl rfl rfl rfl (by omega) (by omega) rfl dL_law_748 rfl (fun σ1 hX1 hF1 => ?_)
  have hp1 := kp_F hp hF1 (Nat.le_refl _) (by omega) (by omega)
  refine jk_sipush (q := 754) (y := 1050) dL_law_751 rfl (by decide) ?_
  refine jk_iload (q := 756) dL_law_754 rfl rfl ?_
  refine jk_iadd (q := 757) dL_law_756 rfl ?_
  refine jk_icmp_ne (q := 911) (q2 := 760) dL_law_757 rfl rfl (by first | decide | exact jk_w_in _ | exact ⟨by omega, by omega⟩) (by first | decide | exact jk_w_in _ | exact ⟨by omega, by omega⟩) (fun h => absurd (by first | rfl | omega) h) (fun _ => ?_)
  refine jk_aload (q := 762) dL_law_760 rfl rfl ?_
  refine jk_iconst (q := 763) dL_law_762 rfl ?_
  refine jk_iconst (q := 764) dL_law_763 rfl ?_
  refine jr_qv (q := 767) (As := [jI (0), jI (0)]) (val := jI (1100 + a)) hX1 (c_X12_ground (p := 0) (c := 0) hz hx hX1.1.1.1 hX1.1.1.2.1 hX1.1.2.1.1 hX1.1.1.2.2.1 hX1.1.2.1.2 (by decide) (by decide)) (fun E n' t' σ' ρ' h => h.1) (fq_k (f2_g0 ha)) (fq_v (f2_g0 ha)) jm_X12_ground jw_1072 rfl rfl rfl rfl (by omega) (by omega) rfl dL_law_764 rfl (fun σ2 hX2 hF2 => ?_)
  have hp2 := kp_F hp1 hF2 (Nat.le_refl _) (by omega) (by omega)
  refine jk_sipush (q := 770) (y := 1100) dL_law_767 rfl (by decide) ?_
  refine jk_iload (q := 772) dL_law_770 rfl rfl ?_
  refine jk_iadd (q := 773) dL_law_772 rfl ?_
  refine jk_icmp_ne (q := 911) (q2 := 776) dL_law_773 rfl rfl (by first | decide | exact jk_w_in _ | exact ⟨by omega, by omega⟩) (by first | decide | exact jk_w_in _ | exact ⟨by omega, by omega⟩) (fun h => absurd (by first | rfl | omega) h) (fun _ => ?_)
  refine jk_aload (q := 778) dL_law_776 rfl rfl ?_
  refine jk_bipush (q := 780) (y := 14) dL_law_778 rfl (by decide) ?_
  refine jk_iconst (q := 781) dL_law_780 rfl ?_
  refine jk_bipush (q := 783) (y := 11) dL_law_781 rfl (by decide) ?_
  refine jk_iconst (q := 784) dL_law_783 rfl ?_
  refine jr_a14 (q := 787) hz hx hzn hzn2 hX2 (f2_gx ha) jw_1614 rfl rfl (by omega) (by omega) rfl dL_law_784 rfl (fun n3 σ3 hX3 hF3 => ?_)
  have hm3 := hF3.1
  have hp3 := kp_F hp2 hF3 (Nat.le_refl _) (by omega) (by omega)
  refine jk_ldcV (q := 789) (x := -200002) jw_1637 (by decide) dL_law_787 rfl ?_
  refine jk_icmp_ne (q := 911) (q2 := 792) dL_law_789 rfl rfl (by first | decide | exact jk_w_in _ | exact ⟨by omega, by omega⟩) (by first | decide | exact jk_w_in _ | exact ⟨by omega, by omega⟩) (fun h => absurd (by first | rfl | omega) h) (fun _ => ?_)
  refine jk_aload (q := 794) dL_law_792 rfl rfl ?_
  refine jk_sipush (q := 797) (y := 1055) dL_law_794 rfl (by decide) ?_
  refine jk_iload (q := 799) dL_law_797 rfl rfl ?_
  refine jk_iadd (q := 800) dL_law_799 rfl ?_
  refine jt_c (q := 803) (As := [jI ((1055 + a))]) (k := 11) (a := (1055 + a)) (b := 0) (c9 := 0) (d := 0) hX3 (c_X12_setWaterLevel (a := (1055 + a)) hz hx hX3.1.1.1 hX3.1.1.2.1 hX3.1.2.1.1 hX3.1.1.2.2.1 hX3.1.2.1.2 hX3.1.1.2.2.2 (fun j hj => st_2 (hX3.1.2.2.2 j hj)) ⟨by omega, by omega⟩) (cl_lit hX3.1.2.1.1 (by omega) (c2_w ha)) (by omega) jm_X12_setWaterLevel jw_845 rfl rfl rfl rfl (by omega) (by omega) rfl dL_law_800 rfl (fun σ4 hX4 hF4 => ?_)
  have hp4 := kp_F hp3 hF4 (Nat.le_refl _) (by omega) (by omega)
  refine jk_ifN_ne (q := 806) (by decide) (by decide) dL_law_803 rfl rfl ?_
  refine jk_aload (q := 808) dL_law_806 rfl rfl ?_
  refine jk_iconst (q := 809) dL_law_808 rfl ?_
  refine jr_qv (q := 812) (As := [jI (0)]) (val := jI (6)) hX4 (c_X12_wetColumns (p := 0) hz hx hX4.1.1.1 hX4.1.1.2.1 hX4.1.2.1.1 hX4.1.1.2.2.1 hX4.1.2.1.2 (by omega) (by decide)) (fun E n' t' σ' ρ' h => h.1) (fq_k (f3_wc ha)) (fq_v (f3_wc ha)) jm_X12_wetColumns jw_1103 rfl rfl rfl rfl (by omega) (by omega) rfl dL_law_809 rfl (fun σ5 hX5 hF5 => ?_)
  have hp5 := kp_F hp4 hF5 (Nat.le_refl _) (by omega) (by omega)
  refine jk_bipush (q := 814) (y := 6) dL_law_812 rfl (by decide) ?_
  refine jk_icmp_ne (q := 911) (q2 := 817) dL_law_814 rfl rfl (by first | decide | exact jk_w_in _ | exact ⟨by omega, by omega⟩) (by first | decide | exact jk_w_in _ | exact ⟨by omega, by omega⟩) (fun h => absurd (by first | rfl | omega) h) (fun _ => ?_)
  refine jk_aload (q := 819) dL_law_817 rfl rfl ?_
  refine jk_iconst (q := 820) dL_law_819 rfl ?_
  refine jr_qv (q := 823) (As := [jI (0)]) (val := jI (6)) hX5 (c_X12_wetColumnsBySegments (p := 0) hz hx hX5.1.1.1 hX5.1.1.2.1 hX5.1.2.1.1 hX5.1.1.2.2.1 hX5.1.2.1.2 (by omega) (by decide)) (fun E n' t' σ' ρ' h => h.1) (fq_k (f3_wc ha)) (fq_v (f3_wc ha)) jm_X12_wetColumnsBySegments jw_1116 rfl rfl rfl rfl (by omega) (by omega) rfl dL_law_820 rfl (fun σ6 hX6 hF6 => ?_)
  have hp6 := kp_F hp5 hF6 (Nat.le_refl _) (by omega) (by omega)
  refine jk_bipush (q := 825) (y := 6) dL_law_823 rfl (by decide) ?_
  refine jk_icmp_ne (q := 911) (q2 := 828) dL_law_825 rfl rfl (by first | decide | exact jk_w_in _ | exact ⟨by omega, by omega⟩) (by first | decide | exact jk_w_in _ | exact ⟨by omega, by omega⟩) (fun h => absurd (by first | rfl | omega) h) (fun _ => ?_)
  refine jk_aload (q := 830) dL_law_828 rfl rfl ?_
  refine jk_iconst (q := 831) dL_law_830 rfl ?_
  refine jr_qv (q := 834) (As := [jI (0)]) (val := jI (1)) hX6 (c_X12_shores (p := 0) hz hx hX6.1.1.1 hX6.1.1.2.1 hX6.1.2.1.1 hX6.1.1.2.2.1 hX6.1.2.1.2 (by omega) (by decide)) (fun E n' t' σ' ρ' h => h.1) (fq_k (f3_sh ha)) (fq_v (f3_sh ha)) jm_X12_shores jw_1132 rfl rfl rfl rfl (by omega) (by omega) rfl dL_law_831 rfl (fun σ7 hX7 hF7 => ?_)
  have hp7 := kp_F hp6 hF7 (Nat.le_refl _) (by omega) (by omega)
  refine jk_iconst (q := 835) dL_law_834 rfl ?_
  refine jk_icmp_ne (q := 911) (q2 := 838) dL_law_835 rfl rfl (by first | decide | exact jk_w_in _ | exact ⟨by omega, by omega⟩) (by first | decide | exact jk_w_in _ | exact ⟨by omega, by omega⟩) (fun h => absurd (by first | rfl | omega) h) (fun _ => ?_)
  refine jk_aload (q := 840) dL_law_838 rfl rfl ?_
  refine jk_iconst (q := 841) dL_law_840 rfl ?_
  refine jr_qv (q := 844) (As := [jI (0)]) (val := jI (10)) hX7 (c_X12_lowestColumn (p := 0) hz hx hX7.1.1.1 hX7.1.1.2.1 hX7.1.2.1.1 hX7.1.1.2.2.1 hX7.1.2.1.2 (by decide)) (fun E n' t' σ' ρ' h => h.1) (fq_k (f3_lw ha)) (fq_v (f3_lw ha)) jm_X12_lowestColumn jw_1140 rfl rfl rfl rfl (by omega) (by omega) rfl dL_law_841 rfl (fun σ8 hX8 hF8 => ?_)
  have hp8 := kp_F hp7 hF8 (Nat.le_refl _) (by omega) (by omega)
  refine jk_bipush (q := 846) (y := 10) dL_law_844 rfl (by decide) ?_
  refine jk_icmp_ne (q := 911) (q2 := 849) dL_law_846 rfl rfl (by first | decide | exact jk_w_in _ | exact ⟨by omega, by omega⟩) (by first | decide | exact jk_w_in _ | exact ⟨by omega, by omega⟩) (fun h => absurd (by first | rfl | omega) h) (fun _ => ?_)
  exact jZ11b hz hx hv hzp hzq hzn hzn2 hs ha hX0 hX8 hp8 (by omega) (by omega) (by omega) (by omega)
set_option maxRecDepth 20000 in
set_option maxHeartbeats 4000000 in
theorem jZ10b {G : jk_G} {n : Nat} {t : jk_T} {σ : jk_I} {ρ : jk_P} {B B0 sp e f e0 f0 : Int} {a : Int} {g : Int → Int} {c c0 y z v K : Nat} {H H0 : Nat → Int → Int} {sv9 Bf0 Bf : Int → Int} {Lo : List Int} {t0 : jk_T} {σ0 : jk_I} {ρ0 : jk_P} {rc rs : Nat} (hz : zz_ok G) (hx : zx_ok G) (hv : zv_ok G) (hzp : zp_ok G) (hzq : zq2_ok G) (hzn : zn_ok G) (hzn2 : zn2_ok G) (hs : xs_ok G) (ha : 0 ≤ a ∧ a ≤ 7) (hX0 : pX 64 644 16 (g, c0, H0) B0 1 g Bf0 e0 f0 [] z t0 σ0 ρ0) (hX : pX z v K (zs (Z2 a), c, H) B sp sv9 (Bf) e f Lo n t σ ρ) (hp : kp z t0 σ0 ρ0 t σ ρ) (hzv : z ≤ v) (hB : B ≤ 2500) (hrc : 3090 ≤ rc) (hrs : 26220 ≤ rs) : jk_J G mL_law 671 [some (.ref 63), some (.ref 64), some (.ref y), some (jI (g 1)), some (jI (jk_w (sv g))), some (jI a), some (.ref z)] [] n t σ ρ rc rs lq_Q jk_no := by
  have hzn9 := hX.2.1.2.1
  have hc9 : c ≤ 8 := hX.1.2.2.1
  have hbc := hs_pc_bd c hc9
  refine jk_aload (q := 673) dL_law_671 rfl rfl ?_
  refine jk_iconst (q := 674) dL_law_673 rfl ?_
  refine jr_qv (q := 677) (As := [jI (2)]) (val := jI (3)) hX (c_X12_misclosureByLevels (p := 2) hz hx hX.1.1.1 hX.1.1.2.1 hX.1.2.1.1 hX.1.1.2.2.1 hX.1.2.1.2 (by decide)) (fun E n' t' σ' ρ' h => h.1) (fq_k (f2_mc ha)) (fq_v (f2_mc ha)) jm_X12_misclosureByLevels jw_1055 rfl rfl rfl rfl (by omega) (by omega) rfl dL_law_674 rfl (fun σ1 hX1 hF1 => ?_)
  have hp1 := kp_F hp hF1 (Nat.le_refl _) (by omega) (by omega)
  refine jk_iconst (q := 678) dL_law_677 rfl ?_
  refine jk_icmp_ne (q := 742) (q2 := 681) dL_law_678 rfl rfl (by first | decide | exact jk_w_in _ | exact ⟨by omega, by omega⟩) (by first | decide | exact jk_w_in _ | exact ⟨by omega, by omega⟩) (fun h => absurd (by first | rfl | omega) h) (fun _ => ?_)
  refine jk_aload (q := 683) dL_law_681 rfl rfl ?_
  refine jk_iconst (q := 684) dL_law_683 rfl ?_
  refine jk_iconst (q := 685) dL_law_684 rfl ?_
  refine jr_qv (q := 688) (As := [jI (2), jI (0)]) (val := jI (1)) hX1 (c_X12_part (p := 2) (k := 0) hz hx hX1.1.1.1 hX1.1.1.2.1 hX1.1.2.1.1 hX1.1.1.2.2.1 hX1.1.2.1.2 (by decide) (by decide)) (fun E n' t' σ' ρ' h => h.1) (fq_k (f2_p0 ha)) (fq_v (f2_p0 ha)) jm_X12_part jw_1063 rfl rfl rfl rfl (by omega) (by omega) rfl dL_law_685 rfl (fun σ2 hX2 hF2 => ?_)
  have hp2 := kp_F hp1 hF2 (Nat.le_refl _) (by omega) (by omega)
  refine jk_iconst (q := 689) dL_law_688 rfl ?_
  refine jk_icmp_ne (q := 742) (q2 := 692) dL_law_689 rfl rfl (by first | decide | exact jk_w_in _ | exact ⟨by omega, by omega⟩) (by first | decide | exact jk_w_in _ | exact ⟨by omega, by omega⟩) (fun h => absurd (by first | rfl | omega) h) (fun _ => ?_)
  refine jk_aload (q := 694) dL_law_692 rfl rfl ?_
  refine jk_iconst (q := 695) dL_law_694 rfl ?_
  refine jk_iconst (q := 696) dL_law_695 rfl ?_
  refine jr_qv (q := 699) (As := [jI (2), jI (1)]) (val := jI (1)) hX2 (c_X12_part (p := 2) (k := 1) hz hx hX2.1.1.1 hX2.1.1.2.1 hX2.1.2.1.1 hX2.1.1.2.2.1 hX2.1.2.1.2 (by decide) (by decide)) (fun E n' t' σ' ρ' h => h.1) (fq_k (f2_p1 ha)) (fq_v (f2_p1 ha)) jm_X12_part jw_1063 rfl rfl rfl rfl (by omega) (by omega) rfl dL_law_696 rfl (fun σ3 hX3 hF3 => ?_)
  have hp3 := kp_F hp2 hF3 (Nat.le_refl _) (by omega) (by omega)
  refine jk_iconst (q := 700) dL_law_699 rfl ?_
  refine jk_icmp_ne (q := 742) (q2 := 703) dL_law_700 rfl rfl (by first | decide | exact jk_w_in _ | exact ⟨by omega, by omega⟩) (by first | decide | exact jk_w_in _ | exact ⟨by omega, by omega⟩) (fun h => absurd (by first | rfl | omega) h) (fun _ => ?_)
  refine jk_aload (q := 705) dL_law_703 rfl rfl ?_
  refine jk_iconst (q := 706) dL_law_705 rfl ?_
  refine jk_iconst (q := 707) dL_law_706 rfl ?_
  refine jr_qv (q := 710) (As := [jI (2), jI (2)]) (val := jI (1)) hX3 (c_X12_part (p := 2) (k := 2) hz hx hX3.1.1.1 hX3.1.1.2.1 hX3.1.2.1.1 hX3.1.1.2.2.1 hX3.1.2.1.2 (by decide) (by decide)) (fun E n' t' σ' ρ' h => h.1) (fq_k (f2_p2 ha)) (fq_v (f2_p2 ha)) jm_X12_part jw_1063 rfl rfl rfl rfl (by omega) (by omega) rfl dL_law_707 rfl (fun σ4 hX4 hF4 => ?_)
  have hp4 := kp_F hp3 hF4 (Nat.le_refl _) (by omega) (by omega)
  refine jk_iconst (q := 711) dL_law_710 rfl ?_
  refine jk_icmp_ne (q := 742) (q2 := 714) dL_law_711 rfl rfl (by first | decide | exact jk_w_in _ | exact ⟨by omega, by omega⟩) (by first | decide | exact jk_w_in _ | exact ⟨by omega, by omega⟩) (fun h => absurd (by first | rfl | omega) h) (fun _ => ?_)
  refine jk_aload (q := 716) dL_law_714 rfl rfl ?_
  refine jk_iconst (q := 717) dL_law_716 rfl ?_
  refine jr_qv (q := 720) (As := [jI (2)]) (val := jI (0)) hX4 (c_X12_datum (p := 2) hz hx hX4.1.1.1 hX4.1.1.2.1 hX4.1.2.1.1 hX4.1.1.2.2.1 hX4.1.2.1.2 (by decide)) (fun E n' t' σ' ρ' h => h.1) (fq_k (f2_da ha)) (fq_v (f2_da ha)) jm_X12_datum jw_919 rfl rfl rfl rfl (by omega) (by omega) rfl dL_law_717 rfl (fun σ5 hX5 hF5 => ?_)
  have hp5 := kp_F hp4 hF5 (Nat.le_refl _) (by omega) (by omega)
  refine jk_ifN_ne (q := 723) (by decide) (by decide) dL_law_720 rfl rfl ?_
  refine jk_aload (q := 725) dL_law_723 rfl rfl ?_
  refine jk_iconst (q := 726) dL_law_725 rfl ?_
  refine jr_qv (q := 729) (As := [jI (0)]) (val := jI (2)) hX5 (c_X12_benchmarkByHeight (p := 0) hz hx hX5.1.1.1 hX5.1.1.2.1 hX5.1.2.1.1 hX5.1.1.2.2.1 hX5.1.2.1.2 (by decide)) (fun E n' t' σ' ρ' h => h.1) (fq_k (f2_b0 ha)) (fq_v (f2_b0 ha)) jm_X12_benchmarkByHeight jw_925 rfl rfl rfl rfl (by omega) (by omega) rfl dL_law_726 rfl (fun σ6 hX6 hF6 => ?_)
  have hp6 := kp_F hp5 hF6 (Nat.le_refl _) (by omega) (by omega)
  refine jk_iconst (q := 730) dL_law_729 rfl ?_
  refine jk_icmp_ne (q := 742) (q2 := 733) dL_law_730 rfl rfl (by first | decide | exact jk_w_in _ | exact ⟨by omega, by omega⟩) (by first | decide | exact jk_w_in _ | exact ⟨by omega, by omega⟩) (fun h => absurd (by first | rfl | omega) h) (fun _ => ?_)
  refine jk_aload (q := 735) dL_law_733 rfl rfl ?_
  refine jk_iconst (q := 736) dL_law_735 rfl ?_
  refine jr_qv (q := 739) (As := [jI (2)]) (val := jI (0)) hX6 (c_X12_benchmarkByHeight (p := 2) hz hx hX6.1.1.1 hX6.1.1.2.1 hX6.1.2.1.1 hX6.1.1.2.2.1 hX6.1.2.1.2 (by decide)) (fun E n' t' σ' ρ' h => h.1) (fq_k (f2_b2 ha)) (fq_v (f2_b2 ha)) jm_X12_benchmarkByHeight jw_925 rfl rfl rfl rfl (by omega) (by omega) rfl dL_law_736 rfl (fun σ7 hX7 hF7 => ?_)
  have hp7 := kp_F hp6 hF7 (Nat.le_refl _) (by omega) (by omega)
  refine jk_ifT_eq (q := 744) (by decide) (by decide) dL_law_739 rfl ?_
  exact jZ11a hz hx hv hzp hzq hzn hzn2 hs ha hX0 hX7 hp7 (by omega) (by omega) (by omega) (by omega)
set_option maxRecDepth 20000 in
set_option maxHeartbeats 4000000 in
theorem jZ10a {G : jk_G} {n : Nat} {t : jk_T} {σ : jk_I} {ρ : jk_P} {B B0 sp e f e0 f0 : Int} {a : Int} {g : Int → Int} {c c0 y z v K : Nat} {H H0 : Nat → Int → Int} {sv9 Bf0 Bf : Int → Int} {Lo : List Int} {t0 : jk_T} {σ0 : jk_I} {ρ0 : jk_P} {rc rs : Nat} (hz : zz_ok G) (hx : zx_ok G) (hv : zv_ok G) (hzp : zp_ok G) (hzq : zq2_ok G) (hzn : zn_ok G) (hzn2 : zn2_ok G) (hs : xs_ok G) (ha : 0 ≤ a ∧ a ≤ 7) (hX0 : pX 64 644 16 (g, c0, H0) B0 1 g Bf0 e0 f0 [] z t0 σ0 ρ0) (hX : pX z v K (zs (Z2 a), c, H) B sp sv9 (Bf) e f Lo n t σ ρ) (hp : kp z t0 σ0 ρ0 t σ ρ) (hzv : z ≤ v) (hB : B ≤ 2500) (hrc : 3150 ≤ rc) (hrs : 26620 ≤ rs) : jk_J G mL_law 601 [some (.ref 63), some (.ref 64), some (.ref y), some (jI (g 1)), some (jI (jk_w (sv g))), some (jI a), some (.ref z)] [] n t σ ρ rc rs lq_Q jk_no := by
  have hzn9 := hX.2.1.2.1
  have hc9 : c ≤ 8 := hX.1.2.2.1
  have hbc := hs_pc_bd c hc9
  refine jk_aload (q := 603) dL_law_601 rfl rfl ?_
  refine jr_qv (q := 606) (As := []) (val := jI (8)) hX (c_X12_forestLength  hz hx hX.1.1.1 hX.1.1.2.1 hX.1.2.1.1 hX.1.1.2.2.1 hX.1.2.1.2 ) (fun E n' t' σ' ρ' h => h.1) rfl (fq_2 (f2_fl ha)) jm_X12_forestLength jw_985 rfl rfl rfl rfl (by omega) (by omega) rfl dL_law_603 rfl (fun σ1 hX1 hF1 => ?_)
  have hp1 := kp_F hp hF1 (Nat.le_refl _) (by omega) (by omega)
  refine jk_bipush (q := 608) (y := 8) dL_law_606 rfl (by decide) ?_
  refine jk_icmp_ne (q := 742) (q2 := 611) dL_law_608 rfl rfl (by first | decide | exact jk_w_in _ | exact ⟨by omega, by omega⟩) (by first | decide | exact jk_w_in _ | exact ⟨by omega, by omega⟩) (fun h => absurd (by first | rfl | omega) h) (fun _ => ?_)
  refine jk_aload (q := 613) dL_law_611 rfl rfl ?_
  refine jr_qv (q := 616) (As := []) (val := jI (8)) hX1 (c_X12_forestLengthByGrowing  hz hx hX1.1.1.1 hX1.1.1.2.1 hX1.1.2.1.1 hX1.1.1.2.2.1 hX1.1.2.1.2 ) (fun E n' t' σ' ρ' h => h.1) rfl (fq_2 (f2_fl ha)) jm_X12_forestLengthByGrowing jw_993 rfl rfl rfl rfl (by omega) (by omega) rfl dL_law_613 rfl (fun σ2 hX2 hF2 => ?_)
  have hp2 := kp_F hp1 hF2 (Nat.le_refl _) (by omega) (by omega)
  refine jk_bipush (q := 618) (y := 8) dL_law_616 rfl (by decide) ?_
  refine jk_icmp_ne (q := 742) (q2 := 621) dL_law_618 rfl rfl (by first | decide | exact jk_w_in _ | exact ⟨by omega, by omega⟩) (by first | decide | exact jk_w_in _ | exact ⟨by omega, by omega⟩) (fun h => absurd (by first | rfl | omega) h) (fun _ => ?_)
  refine jk_aload (q := 623) dL_law_621 rfl rfl ?_
  refine jr_qv (q := 626) (As := []) (val := jI (1)) hX2 (c_X12_treeCount  hz hx hX2.1.1.1 hX2.1.1.2.1 hX2.1.2.1.1 hX2.1.1.2.2.1 hX2.1.2.1.2 ) (fun E n' t' σ' ρ' h => h.1) rfl (fq_2 (f2_tc ha)) jm_X12_treeCount jw_1009 rfl rfl rfl rfl (by omega) (by omega) rfl dL_law_623 rfl (fun σ3 hX3 hF3 => ?_)
  have hp3 := kp_F hp2 hF3 (Nat.le_refl _) (by omega) (by omega)
  refine jk_iconst (q := 627) dL_law_626 rfl ?_
  refine jk_icmp_ne (q := 742) (q2 := 630) dL_law_627 rfl rfl (by first | decide | exact jk_w_in _ | exact ⟨by omega, by omega⟩) (by first | decide | exact jk_w_in _ | exact ⟨by omega, by omega⟩) (fun h => absurd (by first | rfl | omega) h) (fun _ => ?_)
  refine jk_aload (q := 632) dL_law_630 rfl rfl ?_
  refine jk_iconst (q := 633) dL_law_632 rfl ?_
  refine jr_qv (q := 636) (As := [jI (0)]) (val := jI (2)) hX3 (c_X12_loopAt (p := 0) hz hx hX3.1.1.1 hX3.1.1.2.1 hX3.1.2.1.1 hX3.1.1.2.2.1 hX3.1.2.1.2 (by decide)) (fun E n' t' σ' ρ' h => h.1) (fq_k (f2_la ha)) (fq_v (f2_la ha)) jm_X12_loopAt jw_1026 rfl rfl rfl rfl (by omega) (by omega) rfl dL_law_633 rfl (fun σ4 hX4 hF4 => ?_)
  have hp4 := kp_F hp3 hF4 (Nat.le_refl _) (by omega) (by omega)
  refine jk_iconst (q := 637) dL_law_636 rfl ?_
  refine jk_icmp_ne (q := 742) (q2 := 640) dL_law_637 rfl rfl (by first | decide | exact jk_w_in _ | exact ⟨by omega, by omega⟩) (by first | decide | exact jk_w_in _ | exact ⟨by omega, by omega⟩) (fun h => absurd (by first | rfl | omega) h) (fun _ => ?_)
  refine jk_aload (q := 642) dL_law_640 rfl rfl ?_
  refine jk_iconst (q := 643) dL_law_642 rfl ?_
  refine jr_qv (q := 646) (As := [jI (2)]) (val := jI (3)) hX4 (c_X12_loopSize (p := 2) hz hx hX4.1.1.1 hX4.1.1.2.1 hX4.1.2.1.1 hX4.1.1.2.2.1 hX4.1.2.1.2 (by decide)) (fun E n' t' σ' ρ' h => h.1) (fq_k (f2_ls ha)) (fq_v (f2_ls ha)) jm_X12_loopSize jw_1035 rfl rfl rfl rfl (by omega) (by omega) rfl dL_law_643 rfl (fun σ5 hX5 hF5 => ?_)
  have hp5 := kp_F hp4 hF5 (Nat.le_refl _) (by omega) (by omega)
  refine jk_iconst (q := 647) dL_law_646 rfl ?_
  refine jk_icmp_ne (q := 742) (q2 := 650) dL_law_647 rfl rfl (by first | decide | exact jk_w_in _ | exact ⟨by omega, by omega⟩) (by first | decide | exact jk_w_in _ | exact ⟨by omega, by omega⟩) (fun h => absurd (by first | rfl | omega) h) (fun _ => ?_)
  refine jk_aload (q := 652) dL_law_650 rfl rfl ?_
  refine jk_iconst (q := 653) dL_law_652 rfl ?_
  refine jr_qv (q := 656) (As := [jI (2)]) (val := jI (16)) hX5 (c_X12_loopLength (p := 2) hz hx hX5.1.1.1 hX5.1.1.2.1 hX5.1.2.1.1 hX5.1.1.2.2.1 hX5.1.2.1.2 (by decide)) (fun E n' t' σ' ρ' h => h.1) (fq_k (f2_ll ha)) (fq_v (f2_ll ha)) jm_X12_loopLength jw_1045 rfl rfl rfl rfl (by omega) (by omega) rfl dL_law_653 rfl (fun σ6 hX6 hF6 => ?_)
  have hp6 := kp_F hp5 hF6 (Nat.le_refl _) (by omega) (by omega)
  refine jk_bipush (q := 658) (y := 16) dL_law_656 rfl (by decide) ?_
  refine jk_icmp_ne (q := 742) (q2 := 661) dL_law_658 rfl rfl (by first | decide | exact jk_w_in _ | exact ⟨by omega, by omega⟩) (by first | decide | exact jk_w_in _ | exact ⟨by omega, by omega⟩) (fun h => absurd (by first | rfl | omega) h) (fun _ => ?_)
  refine jk_aload (q := 663) dL_law_661 rfl rfl ?_
  refine jk_iconst (q := 664) dL_law_663 rfl ?_
  refine jr_qv (q := 667) (As := [jI (2)]) (val := jI (3)) hX6 (c_X12_misclosure (p := 2) hz hx hX6.1.1.1 hX6.1.1.2.1 hX6.1.2.1.1 hX6.1.1.2.2.1 hX6.1.2.1.2 (by decide)) (fun E n' t' σ' ρ' h => h.1) (fq_k (f2_mc ha)) (fq_v (f2_mc ha)) jm_X12_misclosure jw_1050 rfl rfl rfl rfl (by omega) (by omega) rfl dL_law_664 rfl (fun σ7 hX7 hF7 => ?_)
  have hp7 := kp_F hp6 hF7 (Nat.le_refl _) (by omega) (by omega)
  refine jk_iconst (q := 668) dL_law_667 rfl ?_
  refine jk_icmp_ne (q := 742) (q2 := 671) dL_law_668 rfl rfl (by first | decide | exact jk_w_in _ | exact ⟨by omega, by omega⟩) (by first | decide | exact jk_w_in _ | exact ⟨by omega, by omega⟩) (fun h => absurd (by first | rfl | omega) h) (fun _ => ?_)
  exact jZ10b hz hx hv hzp hzq hzn hzn2 hs ha hX0 hX7 hp7 (by omega) (by omega) (by omega) (by omega)
set_option maxRecDepth 20000 in
set_option maxHeartbeats 4000000 in
theorem jZ9 {G : jk_G} {n : Nat} {t : jk_T} {σ : jk_I} {ρ : jk_P} {B B0 sp e f e0 f0 : Int} {a : Int} {g : Int → Int} {c c0 y z v K : Nat} {H H0 : Nat → Int → Int} {sv9 Bf0 : Int → Int} {Lo : List Int} {t0 : jk_T} {σ0 : jk_I} {ρ0 : jk_P} {rc rs : Nat} (hz : zz_ok G) (hx : zx_ok G) (hv : zv_ok G) (hzp : zp_ok G) (hzq : zq2_ok G) (hzn : zn_ok G) (hzn2 : zn2_ok G) (hs : xs_ok G) (ha : 0 ≤ a ∧ a ≤ 7) (hX0 : pX 64 644 16 (g, c0, H0) B0 1 g Bf0 e0 f0 [] z t0 σ0 ρ0) (hX : pX z v K (zs (Z1 a), c, H) B sp sv9 (tb (zb1 a)) e f Lo n t σ ρ) (hp : kp z t0 σ0 ρ0 t σ ρ) (hzv : z ≤ v) (hB : B ≤ 1500) (hrc : 3240 ≤ rc) (hrs : 29620 ≤ rs) : jk_J G mL_law 556 [some (.ref 63), some (.ref 64), some (.ref y), some (jI (g 1)), some (jI (jk_w (sv g))), some (jI a), some (.ref z)] [] n t σ ρ rc rs lq_Q jk_no := by
  have hzn9 := hX.2.1.2.1
  have hc9 : c ≤ 8 := hX.1.2.2.1
  have hbc := hs_pc_bd c hc9
  refine jk_aload (q := 558) dL_law_556 rfl rfl ?_
  have hcl14 : (jk_cl 14).2.2.1 = 4 := rfl
  have hzb := hX.2.1
  have hn9 := hzb.2.1
  refine jk_new (q := 561) (k := 14) jw_1716 jw_343 jw_12 (by omega) (by omega) dL_law_558 rfl ?_
  refine jk_dup (q := 562) dL_law_561 rfl rfl ?_
  refine jk_cI0g (q := 565) (c_J4_init2 (b := n) hz (if_pos rfl) rfl) jm_J4_init_da8c8 jw_1717 rfl rfl (by omega) (by omega) rfl dL_law_562 rfl (fun v' n' t' σ' ρ' hq => ?_) (fun _ _ _ _ _ h => h.elim)
  obtain ⟨rfl, rfl, hfr9, hbu9, hs91, hs92⟩ := hq
  simp only [Option.toList_none, List.nil_append]
  have hb0 := be_new hbu9 (by rw [hs91, jk_set_ne _ _ (by decide)]; unfold jk_zr; exact if_pos rfl) (fun j => by rw [hs92])
  have hq0 := fun a (h : a < n) => (⟨(hfr9 a h).1.trans (if_neg (by omega)), (hfr9 a h).2.1.trans (jk_zr_row _ _ (by omega)), (hfr9 a h).2.2.trans (jk_zr_row _ _ (by omega))⟩ : _ ∧ _ ∧ _)
  have hq0 : kp n _ _ _ _ _ _ := hq0
  obtain ⟨a1, b1, hR1, hso1⟩ := xs_295 hs
  refine jk_ldcwS (q := 568) hR1 dL_law_565 rfl ?_
  refine jk_cV1g (q := 571) (k := 14) (c_be_appendS hb0 hz hso1 hzp hzq (by omega) (by omega) (by decide)) jm_J4_append_15ec4 jw_1718 rfl hb0.1.1 rfl rfl (by omega) (by omega) rfl dL_law_568 rfl (fun v' nb1 t' σ' ρ' hq => ?_) (fun _ _ _ _ _ h => h.elim)
  obtain ⟨rfl, wb1, Kb1, hb1, -, hfb1⟩ := hq
  have hq1 := kp_B hq0 hfb1 (Nat.le_refl _) (by omega) (by omega)
  obtain ⟨ob1, pb1, rb1, -⟩ := hfb1
  simp only [Option.toList_some, List.cons_append, List.nil_append]
  refine jk_sipush (q := 574) (y := 147) dL_law_571 rfl (by decide) ?_
  refine jk_iload (q := 576) dL_law_574 rfl rfl ?_
  refine jk_iadd (q := 577) dL_law_576 rfl ?_
  refine jk_cV1g (q := 580) (k := 14) (c_be_appendI hb1 hz hzp (by omega) (by omega) ⟨by omega, by omega⟩ (zl_2 ha).2.1) jm_J4_append_bf812 jw_1719 rfl hb1.1.1 rfl rfl (by omega) (by omega) rfl dL_law_577 rfl (fun v' nb2 t' σ' ρ' hq => ?_) (fun _ _ _ _ _ h => h.elim)
  obtain ⟨rfl, wb2, Kb2, hb2, -, hfb2⟩ := hq
  have hq2 := kp_B hq1 hfb2 (Nat.le_refl _) (by omega) (by omega)
  obtain ⟨ob2, pb2, rb2, -⟩ := hfb2
  simp only [Option.toList_some, List.cons_append, List.nil_append]
  obtain ⟨a2, b2, hR2, hso2⟩ := xs_297 hs
  refine jk_ldcwS (q := 583) hR2 dL_law_580 rfl ?_
  refine jk_cV1g (q := 586) (k := 14) (c_be_appendS hb2 hz hso2 hzp hzq (by omega) (by omega) (zl_2 ha).2.2) jm_J4_append_15ec4 jw_1718 rfl hb2.1.1 rfl rfl (by omega) (by omega) rfl dL_law_583 rfl (fun v' nb3 t' σ' ρ' hq => ?_) (fun _ _ _ _ _ h => h.elim)
  obtain ⟨rfl, wb3, Kb3, hb3, -, hfb3⟩ := hq
  have hq3 := kp_B hq2 hfb3 (Nat.le_refl _) (by omega) (by omega)
  obtain ⟨ob3, pb3, rb3, -⟩ := hfb3
  simp only [Option.toList_some, List.cons_append, List.nil_append]
  refine jk_cV0g (q := 589) (k := 14) (c_be_toString hb3 hz (by omega) (by omega)) jm_J4_toString_0e30d jw_1720 rfl hb3.1.1 rfl rfl (by omega) (by omega) rfl dL_law_586 rfl (fun v' n' t' σ' ρ' hq => ?_) (fun _ _ _ _ _ h => h.elim)
  obtain ⟨rfl, rfl, hfr8, hsm⟩ := hq
  have hq4 := kp_t hq3 (show kp _ _ _ _ _ _ _ from hfr8) (by omega)
  simp only [Option.toList_some, List.cons_append, List.nil_append]
  have hXs := pX_up (n' := nb3 + 4) hX (by omega) hq4
  have hps := kp_t hp hq4 (by omega)
  have hX3b := hXs
  refine jr_putT (q := 592) (L0 := zb1 a) (L1 := zb2 a) hz hx hv hXs (Or.inr ⟨_, hsm⟩) (zk_2 ha) rfl jw_1596 rfl rfl (by omega) (by omega) rfl dL_law_589 rfl (fun σ3 hT3 hF3 => ?_)
  have hp3 := kp_F hps hF3 (Nat.le_refl _) (by omega) (by omega)
  refine jk_aload (q := 594) dL_law_592 rfl rfl ?_
  refine jt_run (q := 597) (N := 4) (P0 := zP0) hz hx hv hT3 (by omega) (zw_2 ha) (zf_2 ha) (zn_2 ha) (gk_lit hX3b.1.2.1.1 (by omega) (zg_2 ha)) jw_1503 rfl rfl (by omega) (by omega) rfl dL_law_594 rfl (fun σ4 ρ4 hX4 hF4 => ?_)
  have hp4 := kp_F hp3 hF4 (Nat.le_refl _) (by omega) (by omega)
  refine jk_iconst (q := 598) dL_law_597 rfl ?_
  refine jk_icmp_ne (q := 742) (q2 := 601) dL_law_598 rfl rfl (by first | decide | exact jk_w_in _ | exact ⟨by omega, by omega⟩) (by first | decide | exact jk_w_in _ | exact ⟨by omega, by omega⟩) (fun h => absurd (by first | rfl | omega) h) (fun _ => ?_)
  exact jZ10a hz hx hv hzp hzq hzn hzn2 hs ha hX0 hX4 hp4 (by omega) (by omega) (by omega) (by omega)
set_option maxRecDepth 20000 in
set_option maxHeartbeats 4000000 in
theorem jZ8 {G : jk_G} {n : Nat} {t : jk_T} {σ : jk_I} {ρ : jk_P} {B B0 sp e f e0 f0 : Int} {a : Int} {g : Int → Int} {c c0 y z v K : Nat} {H H0 : Nat → Int → Int} {sv9 Bf0 : Int → Int} {Lo : List Int} {t0 : jk_T} {σ0 : jk_I} {ρ0 : jk_P} {rc rs : Nat} (hz : zz_ok G) (hx : zx_ok G) (hv : zv_ok G) (hzp : zp_ok G) (hzq : zq2_ok G) (hzn : zn_ok G) (hzn2 : zn2_ok G) (hs : xs_ok G) (ha : 0 ≤ a ∧ a ≤ 7) (hX0 : pX 64 644 16 (g, c0, H0) B0 1 g Bf0 e0 f0 [] z t0 σ0 ρ0) (hX : pX z v K (zs (Z1 a), c, H) B sp sv9 (tb (zb1 a)) e f Lo n t σ ρ) (hp : kp z t0 σ0 ρ0 t σ ρ) (hzv : z ≤ v) (hB : B ≤ 1500) (hrc : 3280 ≤ rc) (hrs : 29870 ≤ rs) : jk_J G mL_law 486 [some (.ref 63), some (.ref 64), some (.ref y), some (jI (g 1)), some (jI (jk_w (sv g))), some (jI a), some (.ref z)] [] n t σ ρ rc rs lq_Q jk_no := by
  have hzn9 := hX.2.1.2.1
  have hc9 : c ≤ 8 := hX.1.2.2.1
  have hbc := hs_pc_bd c hc9
  refine jk_aload (q := 488) dL_law_486 rfl rfl ?_
  refine jr_qv (q := 491) (As := []) (val := jI (0)) hX (c_X12_loopCount  hz hx hX.1.1.1 hX.1.1.2.1 hX.1.2.1.1 hX.1.1.2.2.1 hX.1.2.1.2 ) (fun E n' t' σ' ρ' h => h.1) rfl (fq_2 (f1_lo ha)) jm_X12_loopCount jw_1017 rfl rfl rfl rfl (by omega) (by omega) rfl dL_law_488 rfl (fun σ1 hX1 hF1 => ?_)
  have hp1 := kp_F hp hF1 (Nat.le_refl _) (by omega) (by omega)
  refine jk_ifN_ne (q := 494) (by decide) (by decide) dL_law_491 rfl rfl ?_
  refine jk_aload (q := 496) dL_law_494 rfl rfl ?_
  refine jk_iconst (q := 497) dL_law_496 rfl ?_
  refine jr_qv (q := 500) (As := [jI (2)]) (val := jI (1150 + a)) hX1 (c_X12_height (p := 2) hz hx hX1.1.1.1 hX1.1.1.2.1 hX1.1.2.1.1 hX1.1.1.2.2.1 hX1.1.2.1.2 (by decide)) (fun E n' t' σ' ρ' h => h.1) (fq_k (f1_h2 ha)) (fq_v (f1_h2 ha)) jm_X12_height jw_874 rfl rfl rfl rfl (by omega) (by omega) rfl dL_law_497 rfl (fun σ2 hX2 hF2 => ?_)
  have hp2 := kp_F hp1 hF2 (Nat.le_refl _) (by omega) (by omega)
  refine jk_sipush (q := 503) (y := 1150) dL_law_500 rfl (by decide) ?_
  refine jk_iload (q := 505) dL_law_503 rfl rfl ?_
  refine jk_iadd (q := 506) dL_law_505 rfl ?_
  refine jk_icmp_ne (q := 554) (q2 := 509) dL_law_506 rfl rfl (by first | decide | exact jk_w_in _ | exact ⟨by omega, by omega⟩) (by first | decide | exact jk_w_in _ | exact ⟨by omega, by omega⟩) (fun h => absurd (by first | rfl | omega) h) (fun _ => ?_)
  refine jk_aload (q := 511) dL_law_509 rfl rfl ?_
  refine jk_iconst (q := 512) dL_law_511 rfl ?_
  refine jr_qv (q := 515) (As := [jI (2)]) (val := jI (1150 + a)) hX2 (c_X12_heightByRounds (p := 2) hz hx hX2.1.1.1 hX2.1.1.2.1 hX2.1.2.1.1 hX2.1.1.2.2.1 hX2.1.2.1.2 (by decide)) (fun E n' t' σ' ρ' h => h.1) (fq_k (f1_h2 ha)) (fq_v (f1_h2 ha)) jm_X12_heightByRounds jw_896 rfl rfl rfl rfl (by omega) (by omega) rfl dL_law_512 rfl (fun σ3 hX3 hF3 => ?_)
  have hp3 := kp_F hp2 hF3 (Nat.le_refl _) (by omega) (by omega)
  refine jk_sipush (q := 518) (y := 1150) dL_law_515 rfl (by decide) ?_
  refine jk_iload (q := 520) dL_law_518 rfl rfl ?_
  refine jk_iadd (q := 521) dL_law_520 rfl ?_
  refine jk_icmp_ne (q := 554) (q2 := 524) dL_law_521 rfl rfl (by first | decide | exact jk_w_in _ | exact ⟨by omega, by omega⟩) (by first | decide | exact jk_w_in _ | exact ⟨by omega, by omega⟩) (fun h => absurd (by first | rfl | omega) h) (fun _ => ?_)
  refine jk_aload (q := 526) dL_law_524 rfl rfl ?_
  refine jk_bipush (q := 528) (y := 18) dL_law_526 rfl (by decide) ?_
  refine jk_iconst (q := 529) dL_law_528 rfl ?_
  refine jk_iconst (q := 530) dL_law_529 rfl ?_
  refine jk_iconst (q := 531) dL_law_530 rfl ?_
  refine jr_a18 (q := 534) hz hx hzn hzn2 hX3 (f1_mc ha) jw_1614 rfl rfl (by omega) (by omega) rfl dL_law_531 rfl (fun n4 σ4 hX4 hF4 => ?_)
  have hm4 := hF4.1
  have hp4 := kp_F hp3 hF4 (Nat.le_refl _) (by omega) (by omega)
  refine jk_ldcV (q := 536) (x := -200005) jw_1640 (by decide) dL_law_534 rfl ?_
  refine jk_icmp_ne (q := 554) (q2 := 539) dL_law_536 rfl rfl (by first | decide | exact jk_w_in _ | exact ⟨by omega, by omega⟩) (by first | decide | exact jk_w_in _ | exact ⟨by omega, by omega⟩) (fun h => absurd (by first | rfl | omega) h) (fun _ => ?_)
  refine jk_aload (q := 541) dL_law_539 rfl rfl ?_
  refine jk_bipush (q := 543) (y := 6) dL_law_541 rfl (by decide) ?_
  refine jk_iconst (q := 544) dL_law_543 rfl ?_
  refine jk_iconst (q := 545) dL_law_544 rfl ?_
  refine jk_iconst (q := 546) dL_law_545 rfl ?_
  refine jr_a6 (q := 549) hz hx hzn hzn2 hX4 (f1_sn ha) (f1_sv ha) jw_1614 rfl rfl (by omega) (by omega) rfl dL_law_546 rfl (fun n5 σ5 hX5 hF5 => ?_)
  have hm5 := hF5.1
  have hp5 := kp_F hp4 hF5 (Nat.le_refl _) (by omega) (by omega)
  refine jk_ldcV (q := 551) (x := -200005) jw_1640 (by decide) dL_law_549 rfl ?_
  refine jk_icmp_eq (q := 556) (q2 := 554) dL_law_551 rfl rfl (by first | decide | exact jk_w_in _ | exact ⟨by omega, by omega⟩) (by first | decide | exact jk_w_in _ | exact ⟨by omega, by omega⟩) (fun _ => ?_) (fun h => absurd (by first | rfl | omega) h)
  exact jZ9 hz hx hv hzp hzq hzn hzn2 hs ha hX0 hX5 hp5 (by omega) (by omega) (by omega) (by omega)
set_option maxRecDepth 20000 in
set_option maxHeartbeats 4000000 in
theorem jZ7 {G : jk_G} {n : Nat} {t : jk_T} {σ : jk_I} {ρ : jk_P} {B B0 sp e f e0 f0 : Int} {a : Int} {g : Int → Int} {c c0 y z v K : Nat} {H H0 : Nat → Int → Int} {sv9 Bf0 : Int → Int} {Lo : List Int} {t0 : jk_T} {σ0 : jk_I} {ρ0 : jk_P} {rc rs : Nat} (hz : zz_ok G) (hx : zx_ok G) (hv : zv_ok G) (hzp : zp_ok G) (hzq : zq2_ok G) (hzn : zn_ok G) (hzn2 : zn2_ok G) (hs : xs_ok G) (ha : 0 ≤ a ∧ a ≤ 7) (hX0 : pX 64 644 16 (g, c0, H0) B0 1 g Bf0 e0 f0 [] z t0 σ0 ρ0) (hX : pX z v K (z0g, c, H) B sp sv9 (tb []) e f Lo n t σ ρ) (hp : kp z t0 σ0 ρ0 t σ ρ) (hzv : z ≤ v) (hB : B ≤ 500) (hrc : 3370 ≤ rc) (hrs : 32870 ≤ rs) : jk_J G mL_law 441 [some (.ref 63), some (.ref 64), some (.ref y), some (jI (g 1)), some (jI (jk_w (sv g))), some (jI a), some (.ref z)] [] n t σ ρ rc rs lq_Q jk_no := by
  have hzn9 := hX.2.1.2.1
  have hc9 : c ≤ 8 := hX.1.2.2.1
  have hbc := hs_pc_bd c hc9
  refine jk_aload (q := 443) dL_law_441 rfl rfl ?_
  have hcl14 : (jk_cl 14).2.2.1 = 4 := rfl
  have hzb := hX.2.1
  have hn9 := hzb.2.1
  refine jk_new (q := 446) (k := 14) jw_1716 jw_343 jw_12 (by omega) (by omega) dL_law_443 rfl ?_
  refine jk_dup (q := 447) dL_law_446 rfl rfl ?_
  refine jk_cI0g (q := 450) (c_J4_init2 (b := n) hz (if_pos rfl) rfl) jm_J4_init_da8c8 jw_1717 rfl rfl (by omega) (by omega) rfl dL_law_447 rfl (fun v' n' t' σ' ρ' hq => ?_) (fun _ _ _ _ _ h => h.elim)
  obtain ⟨rfl, rfl, hfr9, hbu9, hs91, hs92⟩ := hq
  simp only [Option.toList_none, List.nil_append]
  have hb0 := be_new hbu9 (by rw [hs91, jk_set_ne _ _ (by decide)]; unfold jk_zr; exact if_pos rfl) (fun j => by rw [hs92])
  have hq0 := fun a (h : a < n) => (⟨(hfr9 a h).1.trans (if_neg (by omega)), (hfr9 a h).2.1.trans (jk_zr_row _ _ (by omega)), (hfr9 a h).2.2.trans (jk_zr_row _ _ (by omega))⟩ : _ ∧ _ ∧ _)
  have hq0 : kp n _ _ _ _ _ _ := hq0
  obtain ⟨a1, b1, hR1, hso1⟩ := xs_280 hs
  refine jk_ldcwS (q := 453) hR1 dL_law_450 rfl ?_
  refine jk_cV1g (q := 456) (k := 14) (c_be_appendS hb0 hz hso1 hzp hzq (by omega) (by omega) (by decide)) jm_J4_append_15ec4 jw_1718 rfl hb0.1.1 rfl rfl (by omega) (by omega) rfl dL_law_453 rfl (fun v' nb1 t' σ' ρ' hq => ?_) (fun _ _ _ _ _ h => h.elim)
  obtain ⟨rfl, wb1, Kb1, hb1, -, hfb1⟩ := hq
  have hq1 := kp_B hq0 hfb1 (Nat.le_refl _) (by omega) (by omega)
  obtain ⟨ob1, pb1, rb1, -⟩ := hfb1
  simp only [Option.toList_some, List.cons_append, List.nil_append]
  refine jk_bipush (q := 458) (y := 100) dL_law_456 rfl (by decide) ?_
  refine jk_iload (q := 460) dL_law_458 rfl rfl ?_
  refine jk_iadd (q := 461) dL_law_460 rfl ?_
  refine jk_cV1g (q := 464) (k := 14) (c_be_appendI hb1 hz hzp (by omega) (by omega) ⟨by omega, by omega⟩ (zl_1 ha).2.1) jm_J4_append_bf812 jw_1719 rfl hb1.1.1 rfl rfl (by omega) (by omega) rfl dL_law_461 rfl (fun v' nb2 t' σ' ρ' hq => ?_) (fun _ _ _ _ _ h => h.elim)
  obtain ⟨rfl, wb2, Kb2, hb2, -, hfb2⟩ := hq
  have hq2 := kp_B hq1 hfb2 (Nat.le_refl _) (by omega) (by omega)
  obtain ⟨ob2, pb2, rb2, -⟩ := hfb2
  simp only [Option.toList_some, List.cons_append, List.nil_append]
  obtain ⟨a2, b2, hR2, hso2⟩ := xs_289 hs
  refine jk_ldcwS (q := 467) hR2 dL_law_464 rfl ?_
  refine jk_cV1g (q := 470) (k := 14) (c_be_appendS hb2 hz hso2 hzp hzq (by omega) (by omega) (zl_1 ha).2.2) jm_J4_append_15ec4 jw_1718 rfl hb2.1.1 rfl rfl (by omega) (by omega) rfl dL_law_467 rfl (fun v' nb3 t' σ' ρ' hq => ?_) (fun _ _ _ _ _ h => h.elim)
  obtain ⟨rfl, wb3, Kb3, hb3, -, hfb3⟩ := hq
  have hq3 := kp_B hq2 hfb3 (Nat.le_refl _) (by omega) (by omega)
  obtain ⟨ob3, pb3, rb3, -⟩ := hfb3
  simp only [Option.toList_some, List.cons_append, List.nil_append]
  refine jk_cV0g (q := 473) (k := 14) (c_be_toString hb3 hz (by omega) (by omega)) jm_J4_toString_0e30d jw_1720 rfl hb3.1.1 rfl rfl (by omega) (by omega) rfl dL_law_470 rfl (fun v' n' t' σ' ρ' hq => ?_) (fun _ _ _ _ _ h => h.elim)
  obtain ⟨rfl, rfl, hfr8, hsm⟩ := hq
  have hq4 := kp_t hq3 (show kp _ _ _ _ _ _ _ from hfr8) (by omega)
  simp only [Option.toList_some, List.cons_append, List.nil_append]
  have hXs := pX_up (n' := nb3 + 4) hX (by omega) hq4
  have hps := kp_t hp hq4 (by omega)
  have hX3b := hXs
  refine jr_putT (q := 476) (L0 := []) (L1 := zb1 a) hz hx hv hXs (Or.inr ⟨_, hsm⟩) (zk_1 ha) rfl jw_1596 rfl rfl (by omega) (by omega) rfl dL_law_473 rfl (fun σ3 hT3 hF3 => ?_)
  have hp3 := kp_F hps hF3 (Nat.le_refl _) (by omega) (by omega)
  refine jk_aload (q := 478) dL_law_476 rfl rfl ?_
  refine jt_run (q := 481) (N := 6) (P0 := zP0) hz hx hv hT3 (by omega) (zw_1 ha) (zf_1 ha) (zn_1 ha) (gk_lit hX3b.1.2.1.1 (by omega) (zg_1 ha)) jw_1503 rfl rfl (by omega) (by omega) rfl dL_law_478 rfl (fun σ4 ρ4 hX4 hF4 => ?_)
  have hp4 := kp_F hp3 hF4 (Nat.le_refl _) (by omega) (by omega)
  refine jk_bipush (q := 483) (y := 6) dL_law_481 rfl (by decide) ?_
  refine jk_icmp_ne (q := 554) (q2 := 486) dL_law_483 rfl rfl (by first | decide | exact jk_w_in _ | exact ⟨by omega, by omega⟩) (by first | decide | exact jk_w_in _ | exact ⟨by omega, by omega⟩) (fun h => absurd (by first | rfl | omega) h) (fun _ => ?_)
  exact jZ8 hz hx hv hzp hzq hzn hzn2 hs ha hX0 hX4 hp4 (by omega) (by omega) (by omega) (by omega)
set_option maxRecDepth 20000 in
set_option maxHeartbeats 4000000 in
theorem jZ6 {G : jk_G} {n : Nat} {t : jk_T} {σ : jk_I} {ρ : jk_P} {B B0 sp e f e0 f0 : Int} {a : Int} {g : Int → Int} {c c0 y z v K : Nat} {H H0 : Nat → Int → Int} {sv9 Bf0 : Int → Int} {Lo : List Int} {t0 : jk_T} {σ0 : jk_I} {ρ0 : jk_P} {rc rs : Nat} (hz : zz_ok G) (hx : zx_ok G) (hv : zv_ok G) (hzp : zp_ok G) (hzq : zq2_ok G) (hzn : zn_ok G) (hzn2 : zn2_ok G) (hs : xs_ok G) (ha : 0 ≤ a ∧ a ≤ 7) (hX0 : pX 64 644 16 (g, c0, H0) B0 1 g Bf0 e0 f0 [] z t0 σ0 ρ0) (hX : pX z v K (z0g, c, H) B sp sv9 (tb []) e f Lo n t σ ρ) (hp : kp z t0 σ0 ρ0 t σ ρ) (hzv : z ≤ v) (hB : B ≤ 400) (hrc : 3430 ≤ rc) (hrs : 33270 ≤ rs) : jk_J G mL_law 349 [some (.ref 63), some (.ref 64), some (.ref y), some (jI (g 1)), some (jI (jk_w (sv g))), some (jI a), some (.ref z)] [] n t σ ρ rc rs lq_Q jk_no := by
  have hzn9 := hX.2.1.2.1
  have hc9 : c ≤ 8 := hX.1.2.2.1
  have hbc := hs_pc_bd c hc9
  refine jk_aload (q := 351) dL_law_349 rfl rfl ?_
  refine jr_qv (q := 354) (As := []) (val := jI (1)) hX (c_X12_isConsistent  hz hx hX.1.1.1 hX.1.1.2.1 hX.1.2.1.1 hX.1.1.2.2.1 hX.1.2.1.2 (by omega)) (fun _ _ _ _ _ h => h.elim) (by decide) rfl jm_X12_isConsistent jw_1179 rfl rfl rfl rfl (by omega) (by omega) rfl dL_law_351 rfl (fun σ1 hX1 hF1 => ?_)
  have hp1 := kp_F hp hF1 (Nat.le_refl _) (by omega) (by omega)
  refine jk_ifN_eq (q := 357) (by decide) (by decide) dL_law_354 rfl rfl ?_
  refine jk_aload (q := 359) dL_law_357 rfl rfl ?_
  refine jr_qv (q := 362) (As := []) (val := jI (0)) hX1 (c_X12_benchmarkCount  hz hx hX1.1.1.1 hX1.1.1.2.1 hX1.1.2.1.1 hX1.1.1.2.2.1 hX1.1.2.1.2 ) (fun E n' t' σ' ρ' h => h.1) (by decide) rfl jm_X12_benchmarkCount jw_851 rfl rfl rfl rfl (by omega) (by omega) rfl dL_law_359 rfl (fun σ2 hX2 hF2 => ?_)
  have hp2 := kp_F hp1 hF2 (Nat.le_refl _) (by omega) (by omega)
  refine jk_ifN_ne (q := 365) (by decide) (by decide) dL_law_362 rfl rfl ?_
  refine jk_aload (q := 367) dL_law_365 rfl rfl ?_
  refine jr_qv (q := 370) (As := []) (val := jI (0)) hX2 (c_X12_treeCount  hz hx hX2.1.1.1 hX2.1.1.2.1 hX2.1.2.1.1 hX2.1.1.2.2.1 hX2.1.2.1.2 ) (fun E n' t' σ' ρ' h => h.1) rfl (fq_2 (f0_tc ha)) jm_X12_treeCount jw_1009 rfl rfl rfl rfl (by omega) (by omega) rfl dL_law_367 rfl (fun σ3 hX3 hF3 => ?_)
  have hp3 := kp_F hp2 hF3 (Nat.le_refl _) (by omega) (by omega)
  refine jk_ifN_ne (q := 373) (by decide) (by decide) dL_law_370 rfl rfl ?_
  refine jk_aload (q := 375) dL_law_373 rfl rfl ?_
  refine jr_qv (q := 378) (As := []) (val := jI (0)) hX3 (c_X12_forestLength  hz hx hX3.1.1.1 hX3.1.1.2.1 hX3.1.2.1.1 hX3.1.1.2.2.1 hX3.1.2.1.2 ) (fun E n' t' σ' ρ' h => h.1) rfl (fq_2 (f0_fl ha)) jm_X12_forestLength jw_985 rfl rfl rfl rfl (by omega) (by omega) rfl dL_law_375 rfl (fun σ4 hX4 hF4 => ?_)
  have hp4 := kp_F hp3 hF4 (Nat.le_refl _) (by omega) (by omega)
  refine jk_ifN_ne (q := 381) (by decide) (by decide) dL_law_378 rfl rfl ?_
  refine jk_aload (q := 383) dL_law_381 rfl rfl ?_
  refine jr_qv (q := 386) (As := []) (val := jI (0)) hX4 (c_X12_waterLevel  hz hx hX4.1.1.1 hX4.1.1.2.1 hX4.1.2.1.1 hX4.1.1.2.2.1 hX4.1.2.1.2 ) (fun E n' t' σ' ρ' h => h.1) (by decide) rfl jm_X12_waterLevel jw_1068 rfl rfl rfl rfl (by omega) (by omega) rfl dL_law_383 rfl (fun σ5 hX5 hF5 => ?_)
  have hp5 := kp_F hp4 hF5 (Nat.le_refl _) (by omega) (by omega)
  refine jk_ifN_ne (q := 389) (by decide) (by decide) dL_law_386 rfl rfl ?_
  refine jk_aload (q := 391) dL_law_389 rfl rfl ?_
  refine jk_iconst (q := 392) dL_law_391 rfl ?_
  refine jr_qv (q := 395) (As := [jI (4)]) (val := jI (6)) hX5 (c_X12_tolerance (p := 4) hz hx hX5.1.1.1 hX5.1.1.2.1 hX5.1.2.1.1 hX5.1.1.2.2.1 hX5.1.2.1.2 (by decide)) (fun E n' t' σ' ρ' h => h.1) (fq_k (f0_t4 ha)) (fq_v (f0_t4 ha)) jm_X12_tolerance jw_966 rfl rfl rfl rfl (by omega) (by omega) rfl dL_law_392 rfl (fun σ6 hX6 hF6 => ?_)
  have hp6 := kp_F hp5 hF6 (Nat.le_refl _) (by omega) (by omega)
  refine jk_bipush (q := 397) (y := 6) dL_law_395 rfl (by decide) ?_
  refine jk_icmp_ne (q := 439) (q2 := 400) dL_law_397 rfl rfl (by first | decide | exact jk_w_in _ | exact ⟨by omega, by omega⟩) (by first | decide | exact jk_w_in _ | exact ⟨by omega, by omega⟩) (fun h => absurd (by first | rfl | omega) h) (fun _ => ?_)
  refine jk_aload (q := 402) dL_law_400 rfl rfl ?_
  refine jk_iconst (q := 403) dL_law_402 rfl ?_
  refine jr_qv (q := 406) (As := [jI (0)]) (val := jI (0)) hX6 (c_X12_tolerance (p := 0) hz hx hX6.1.1.1 hX6.1.1.2.1 hX6.1.2.1.1 hX6.1.1.2.2.1 hX6.1.2.1.2 (by decide)) (fun E n' t' σ' ρ' h => h.1) (fq_k (f0_t0 ha)) (fq_v (f0_t0 ha)) jm_X12_tolerance jw_966 rfl rfl rfl rfl (by omega) (by omega) rfl dL_law_403 rfl (fun σ7 hX7 hF7 => ?_)
  have hp7 := kp_F hp6 hF7 (Nat.le_refl _) (by omega) (by omega)
  refine jk_ifN_ne (q := 409) (by decide) (by decide) dL_law_406 rfl rfl ?_
  refine jk_aload (q := 411) dL_law_409 rfl rfl ?_
  refine jk_bipush (q := 413) (y := 6) dL_law_411 rfl (by decide) ?_
  refine jk_iconst (q := 414) dL_law_413 rfl ?_
  refine jk_iconst (q := 415) dL_law_414 rfl ?_
  refine jk_iconst (q := 416) dL_law_415 rfl ?_
  refine jr_a6 (q := 419) hz hx hzn hzn2 hX7 (f0_sn ha) (f0_sv ha) jw_1614 rfl rfl (by omega) (by omega) rfl dL_law_416 rfl (fun n8 σ8 hX8 hF8 => ?_)
  have hm8 := hF8.1
  have hp8 := kp_F hp7 hF8 (Nat.le_refl _) (by omega) (by omega)
  refine jk_ldcV (q := 421) (x := -200001) jw_1636 (by decide) dL_law_419 rfl ?_
  refine jk_icmp_ne (q := 439) (q2 := 424) dL_law_421 rfl rfl (by first | decide | exact jk_w_in _ | exact ⟨by omega, by omega⟩) (by first | decide | exact jk_w_in _ | exact ⟨by omega, by omega⟩) (fun h => absurd (by first | rfl | omega) h) (fun _ => ?_)
  refine jk_aload (q := 426) dL_law_424 rfl rfl ?_
  refine jk_bipush (q := 428) (y := 10) dL_law_426 rfl (by decide) ?_
  refine jk_iconst (q := 429) dL_law_428 rfl ?_
  refine jk_iconst (q := 430) dL_law_429 rfl ?_
  refine jk_iconst (q := 431) dL_law_430 rfl ?_
  refine jr_a10 (q := 434) hz hx hzn hzn2 hX8 (f0_h ha) jw_1614 rfl rfl (by omega) (by omega) rfl dL_law_431 rfl (fun n9 σ9 hX9 hF9 => ?_)
  have hm9 := hF9.1
  have hp9 := kp_F hp8 hF9 (Nat.le_refl _) (by omega) (by omega)
  refine jk_ldcV (q := 436) (x := -200001) jw_1636 (by decide) dL_law_434 rfl ?_
  refine jk_icmp_eq (q := 441) (q2 := 439) dL_law_436 rfl rfl (by first | decide | exact jk_w_in _ | exact ⟨by omega, by omega⟩) (by first | decide | exact jk_w_in _ | exact ⟨by omega, by omega⟩) (fun _ => ?_) (fun h => absurd (by first | rfl | omega) h)
  exact jZ7 hz hx hv hzp hzq hzn hzn2 hs ha hX0 hX9 hp9 (by omega) (by omega) (by omega) (by omega)
end PN
