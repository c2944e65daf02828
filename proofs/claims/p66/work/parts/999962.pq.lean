section PQ
theorem rs_eq (g : Int → Int) : cl_do 8 g 0 0 0 0 = (0, (md_resets g).2.1, (md_resets g).2.2) := rfl
theorem rs_in {g : Int → Int} (h : 0 ≤ g 1 ∧ g 1 ≤ 16) : 0 ≤ (md_resets g).2.1 ∧ (md_resets g).2.1 ≤ 16 := by
  have h2 := rs_bd (F := fun l => g (136 + l) = 0) (g 1).toNat
  exact ⟨h2.1, Int.le_trans h2.2 (by omega)⟩
theorem jL5 {G : jk_G} {n : Nat} {t : jk_T} {σ : jk_I} {ρ : jk_P} {L : Nat} {fq : Nat → Int} {B e f : Int} {g : Int → Int} {c y : Nat} {H : Nat → Int → Int} {rc rs : Nat} {Bf : Int → Int} (hz : zz_ok G) (hx : zx_ok G) (hv : zv_ok G) (hzp : zp_ok G) (hzq : zq2_ok G) (hzn : zn_ok G) (hzn2 : zn2_ok G) (hs : xs_ok G) (hq : zq_ok G L fq) (hX : pX 64 644 16 (g, c, H) B 1 g Bf e f [] n t σ ρ) (hrc : 3840 ≤ rc) (hrs : 38370 ≤ rs) : jk_J G mL_law 329 [some (.ref 63), some (.ref 64), some (.ref y), some (jI (g 1)), some (jI (jk_w (sv g))), none, none] [] n t σ ρ rc rs lq_Q jk_no := by
  have hn9 := hX.2.1.2.1
  have hcl : (jk_cl 12).2.2.1 = 15 := rfl
  refine jk_aload_n (q := 330) dL_law_329 rfl rfl ?_
  refine jk_bipush (q := 332) (y := 13) dL_law_330 rfl (by decide) ?_
  refine jk_cS2p (q := 335) (c_at hq ⟨by decide, by decide⟩) jm_L_at jw_1593 rfl rfl rfl dL_law_332 rfl ?_
  refine jk_bipush (q := 337) (y := 7) dL_law_335 rfl (by decide) ?_
  refine jk_iandZ (q := 338) dL_law_337 rfl ?_
  refine jk_istore5 (q := 340) dL_law_338 rfl rfl rfl ?_
  refine jk_new (q := 343) (k := 12) jw_38 jw_39 jw_1 (by omega) (by omega) dL_law_340 rfl ?_
  refine jk_dup (q := 344) dL_law_343 rfl rfl ?_
  refine jk_cI0g (q := 347) (c_X12_init2 (x := n) hz (if_pos rfl) rfl) jm_X12_init jw_40 rfl rfl (by omega) (by omega) rfl dL_law_344 rfl (fun v' n' t' σ' ρ' h9 => ?_) (fun _ _ _ _ _ h => h.elim)
  obtain ⟨rfl, rfl, hfr, hnew⟩ := h9
  simp only [Option.toList_none, List.nil_append]
  have hZ : pX n (n + 580) 16 (z0g, 0, fun _ _ => 0) 0 0 (fun _ => 0) (tb []) (-1) (-1) [] (n + 582) t' σ' ρ' := by
    rw [tb_nil]
    exact pX_new (n := n + 582) hnew (by funext j; unfold jk_zr; rw [if_pos rfl]) (by omega) (Nat.le_refl _)
  have hp : kp n t σ ρ t' σ' ρ' := fun a ha => ⟨(hfr a ha).1.trans (if_neg (by omega)), (hfr a ha).2.1.trans (jk_zr_row _ _ (by omega)), (hfr a ha).2.2.trans (jk_zr_row _ _ (by omega))⟩
  refine jk_astore6 (q := 349) dL_law_347 rfl rfl rfl ?_
  exact jZ6 hz hx hv hzp hzq hzn hzn2 hs (jk_and7 _) hX hZ hp (by omega) (by decide) (by omega) (by omega)
set_option maxRecDepth 20000 in
set_option maxHeartbeats 4000000 in
theorem jL4 {G : jk_G} {n : Nat} {t : jk_T} {σ : jk_I} {ρ : jk_P} {L : Nat} {fq : Nat → Int} {B : Int} {g : Int → Int} {c y : Nat} {H : Nat → Int → Int} {rc rs : Nat} (hz : zz_ok G) (hx : zx_ok G) (hv : zv_ok G) (hzp : zp_ok G) (hzq : zq2_ok G) (hzn : zn_ok G) (hzn2 : zn2_ok G) (hs : xs_ok G) (hq : zq_ok G L fq) (hX : pX 64 644 16 (g, c, H) B 1 g (tb xb_2) (-1) 0 [] n t σ ρ) (hB : B ≤ 20000) (hrc : 7130 ≤ rc) (hrs : 62920 ≤ rs) : jk_J G mL_law 192 [some (.ref 63), some (.ref 64), some (.ref y), some (jI (g 1)), some (jI (jk_w (sv g))), none, none] [] n t σ ρ rc rs lq_Q jk_no := by
  refine jk_aload_n (q := 193) dL_law_192 rfl rfl ?_
  obtain ⟨a1, b1, hR1, hso1⟩ := xs_238 hs
  refine jk_ldcS (q := 195) hR1 dL_law_193 rfl ?_
  refine jk_iconst (q := 196) dL_law_195 rfl ?_
  refine jt_fails (q := 199) (L0 := xb_2) (L1 := xb_3) (P0 := zP0) hz hx hv hzn hzn2 hX (by omega) (Or.inl ⟨_, hso1⟩) xk_3 rfl xw_3 xp_3 (by decide) jw_1707 rfl rfl (by omega) (by omega) rfl dL_law_196 rfl (fun n2 σ2 ρ2 hX2 hF2 => ?_)
  refine jk_ifN_eq (q := 202) (by decide) (by decide) dL_law_199 rfl rfl ?_
  refine jk_aload_n (q := 203) dL_law_202 rfl rfl ?_
  obtain ⟨a3, b3, hR3, hso3⟩ := xs_244 hs
  refine jk_ldcS (q := 205) hR3 dL_law_203 rfl ?_
  refine jk_iconst (q := 206) dL_law_205 rfl ?_
  refine jt_fails (q := 209) (L0 := xb_3) (L1 := xb_4) (P0 := zP0) hz hx hv hzn hzn2 hX2 (by omega) (Or.inl ⟨_, hso3⟩) xk_4 rfl xw_4 xp_4 (by decide) jw_1707 rfl rfl (by omega) (by omega) rfl dL_law_206 rfl (fun n4 σ4 ρ4 hX4 hF4 => ?_)
  refine jk_ifN_eq (q := 212) (by decide) (by decide) dL_law_209 rfl rfl ?_
  refine jk_aload_n (q := 213) dL_law_212 rfl rfl ?_
  obtain ⟨a5, b5, hR5, hso5⟩ := xs_246 hs
  refine jk_ldcS (q := 215) hR5 dL_law_213 rfl ?_
  refine jk_iconst (q := 216) dL_law_215 rfl ?_
  refine jt_fails (q := 219) (L0 := xb_4) (L1 := xb_5) (P0 := zP0) hz hx hv hzn hzn2 hX4 (by omega) (Or.inl ⟨_, hso5⟩) xk_5 rfl xw_5 xp_5 (by decide) jw_1707 rfl rfl (by omega) (by omega) rfl dL_law_216 rfl (fun n6 σ6 ρ6 hX6 hF6 => ?_)
  refine jk_ifN_eq (q := 222) (by decide) (by decide) dL_law_219 rfl rfl ?_
  refine jk_aload_n (q := 223) dL_law_222 rfl rfl ?_
  obtain ⟨a7, b7, hR7, hso7⟩ := xs_248 hs
  refine jk_ldcS (q := 225) hR7 dL_law_223 rfl ?_
  refine jk_bipush (q := 227) (y := 9) dL_law_225 rfl (by decide) ?_
  refine jt_fails (q := 230) (L0 := xb_5) (L1 := xb_6) (P0 := zP0) hz hx hv hzn hzn2 hX6 (by omega) (Or.inl ⟨_, hso7⟩) xk_6 rfl xw_6 xp_6 (by decide) jw_1707 rfl rfl (by omega) (by omega) rfl dL_law_227 rfl (fun n8 σ8 ρ8 hX8 hF8 => ?_)
  refine jk_ifN_eq (q := 233) (by decide) (by decide) dL_law_230 rfl rfl ?_
  refine jk_aload_n (q := 234) dL_law_233 rfl rfl ?_
  obtain ⟨a9, b9, hR9, hso9⟩ := xs_250 hs
  refine jk_ldcS (q := 236) hR9 dL_law_234 rfl ?_
  refine jk_bipush (q := 238) (y := 7) dL_law_236 rfl (by decide) ?_
  refine jt_fails (q := 241) (L0 := xb_6) (L1 := xb_7) (P0 := zP0) hz hx hv hzn hzn2 hX8 (by omega) (Or.inl ⟨_, hso9⟩) xk_7 rfl xw_7 xp_7 (by decide) jw_1707 rfl rfl (by omega) (by omega) rfl dL_law_238 rfl (fun n10 σ10 ρ10 hX10 hF10 => ?_)
  refine jk_ifN_eq (q := 244) (by decide) (by decide) dL_law_241 rfl rfl ?_
  refine jk_aload_n (q := 245) dL_law_244 rfl rfl ?_
  obtain ⟨a11, b11, hR11, hso11⟩ := xs_252 hs
  refine jk_ldcS (q := 247) hR11 dL_law_245 rfl ?_
  refine jk_bipush (q := 249) (y := 11) dL_law_247 rfl (by decide) ?_
  refine jt_fails (q := 252) (L0 := xb_7) (L1 := xb_8) (P0 := zP0) hz hx hv hzn hzn2 hX10 (by omega) (Or.inl ⟨_, hso11⟩) xk_8 rfl xw_8 xp_8 (by decide) jw_1707 rfl rfl (by omega) (by omega) rfl dL_law_249 rfl (fun n12 σ12 ρ12 hX12 hF12 => ?_)
  refine jk_ifN_eq (q := 255) (by decide) (by decide) dL_law_252 rfl rfl ?_
  refine jk_aload_n (q := 256) dL_law_255 rfl rfl ?_
  obtain ⟨a13, b13, hR13, hso13⟩ := xs_254 hs
  refine jk_ldcS (q := 258) hR13 dL_law_256 rfl ?_
  refine jk_iconst (q := 259) dL_law_258 rfl ?_
  refine jt_fails (q := 262) (L0 := xb_8) (L1 := xb_9) (P0 := zP0) hz hx hv hzn hzn2 hX12 (by omega) (Or.inl ⟨_, hso13⟩) xk_9 rfl xw_9 xp_9 (by decide) jw_1707 rfl rfl (by omega) (by omega) rfl dL_law_259 rfl (fun n14 σ14 ρ14 hX14 hF14 => ?_)
  refine jk_ifN_eq (q := 265) (by decide) (by decide) dL_law_262 rfl rfl ?_
  refine jk_aload_n (q := 266) dL_law_265 rfl rfl ?_
  obtain ⟨a15, b15, hR15, hso15⟩ := xs_256 hs
  refine jk_ldcwS (q := 269) hR15 dL_law_266 rfl ?_
  refine jk_bipush (q := 271) (y := 6) dL_law_269 rfl (by decide) ?_
  refine jt_fails (q := 274) (L0 := xb_9) (L1 := xb_10) (P0 := zP0) hz hx hv hzn hzn2 hX14 (by omega) (Or.inl ⟨_, hso15⟩) xk_10 rfl xw_10 xp_10 (by decide) jw_1707 rfl rfl (by omega) (by omega) rfl dL_law_271 rfl (fun n16 σ16 ρ16 hX16 hF16 => ?_)
  refine jk_ifN_eq (q := 277) (by decide) (by decide) dL_law_274 rfl rfl ?_
  refine jk_aload_n (q := 278) dL_law_277 rfl rfl ?_
  obtain ⟨a17, b17, hR17, hso17⟩ := xs_258 hs
  refine jk_ldcwS (q := 281) hR17 dL_law_278 rfl ?_
  refine jk_iconst (q := 282) dL_law_281 rfl ?_
  refine jt_fails (q := 285) (L0 := xb_10) (L1 := xb_11) (P0 := zP0) hz hx hv hzn hzn2 hX16 (by omega) (Or.inl ⟨_, hso17⟩) xk_11 rfl xw_11 xp_11 (by decide) jw_1707 rfl rfl (by omega) (by omega) rfl dL_law_282 rfl (fun n18 σ18 ρ18 hX18 hF18 => ?_)
  refine jk_ifN_eq (q := 288) (by decide) (by decide) dL_law_285 rfl rfl ?_
  refine jk_aload_n (q := 289) dL_law_288 rfl rfl ?_
  obtain ⟨a19, b19, hR19, hso19⟩ := xs_260 hs
  refine jk_ldcwS (q := 292) hR19 dL_law_289 rfl ?_
  refine jk_bipush (q := 294) (y := 11) dL_law_292 rfl (by decide) ?_
  refine jt_fails (q := 297) (L0 := xb_11) (L1 := xb_12) (P0 := zP0) hz hx hv hzn hzn2 hX18 (by omega) (Or.inl ⟨_, hso19⟩) xk_12 rfl xw_12 xp_12 (by decide) jw_1707 rfl rfl (by omega) (by omega) rfl dL_law_294 rfl (fun n20 σ20 ρ20 hX20 hF20 => ?_)
  refine jk_ifN_eq (q := 300) (by decide) (by decide) dL_law_297 rfl rfl ?_
  refine jk_aload_n (q := 301) dL_law_300 rfl rfl ?_
  obtain ⟨a21, b21, hR21, hso21⟩ := xs_262 hs
  refine jk_ldcwS (q := 304) hR21 dL_law_301 rfl ?_
  refine jk_iconst (q := 305) dL_law_304 rfl ?_
  refine jt_fails (q := 308) (L0 := xb_12) (L1 := xb_13) (P0 := zP0) hz hx hv hzn hzn2 hX20 (by omega) (Or.inl ⟨_, hso21⟩) xk_13 rfl xw_13 xp_13 (by decide) jw_1707 rfl rfl (by omega) (by omega) rfl dL_law_305 rfl (fun n22 σ22 ρ22 hX22 hF22 => ?_)
  refine jk_ifN_eq (q := 311) (by decide) (by decide) dL_law_308 rfl rfl ?_
  refine jk_aload_n (q := 312) dL_law_311 rfl rfl ?_
  refine jr_qv (q := 315) (As := []) (val := jI (0)) hX22 (c_X12_failedCommand (e := 0)  hz hx hX22.1.1.1 hX22.1.1.2.1 hX22.1.2.1.1 hX22.1.1.2.2.1 hX22.1.2.1.2 hX22.2.2.2.2.1.2.2.1 ⟨by decide, by decide⟩) (fun E n' t' σ' ρ' h => h.1) (by decide) rfl jm_X12_failedCommand jw_1570 rfl rfl rfl rfl (by omega) (by omega) rfl dL_law_312 rfl (fun σ23 hX23 hF23 => ?_)
  refine jk_ifN_ne (q := 318) (by decide) (by decide) dL_law_315 rfl rfl ?_
  refine jk_aload_n (q := 319) dL_law_318 rfl rfl ?_
  refine jt_state (q := 322) hz hx hzn hzn2 hX23 jw_1655 rfl rfl (by omega) (by omega) rfl dL_law_319 rfl (fun n24 σ24 hX24 hF24 => ?_)
  have hm24 := hF24.1
  refine jk_iload (q := 324) dL_law_322 rfl rfl ?_
  refine jk_icmp_eq (q := 329) (q2 := 327) dL_law_324 rfl rfl (by first | decide | exact jk_w_in _ | exact ⟨by omega, by omega⟩) (by first | decide | exact jk_w_in _ | exact ⟨by omega, by omega⟩) (fun _ => ?_) (fun h => absurd (by first | rfl | omega) h)
  exact jL5 hz hx hv hzp hzq hzn hzn2 hs hq hX24 (by omega) (by omega)
set_option maxRecDepth 20000 in
set_option maxHeartbeats 4000000 in
theorem jL3 {G : jk_G} {n : Nat} {t : jk_T} {σ : jk_I} {ρ : jk_P} {L : Nat} {fq : Nat → Int} {B : Int} {g : Int → Int} {c y : Nat} {H : Nat → Int → Int} {rc rs : Nat} (hz : zz_ok G) (hx : zx_ok G) (hv : zv_ok G) (hzp : zp_ok G) (hzq : zq2_ok G) (hzn : zn_ok G) (hzn2 : zn2_ok G) (hs : xs_ok G) (hq : zq_ok G L fq) (hg0 : g 0 ≤ 7) (hX : pX 64 644 16 (g, c, H) B 1 g (tb xb_0) (-1) (-1) [] n t σ ρ) (hB : B ≤ 20000) (hrc : 12270 ≤ rc) (hrs : 103720 ≤ rs) : jk_J G mL_law 125 [some (.ref 63), some (.ref 64), some (.ref y), some (jI (g 1)), some (jI (jk_w (sv g))), none, none] [] n t σ ρ rc rs lq_Q jk_no := by
  refine jk_aload_n (q := 126) dL_law_125 rfl rfl ?_
  obtain ⟨a1, b1, hR1, hso1⟩ := xs_228 hs
  refine jk_ldcS (q := 128) hR1 dL_law_126 rfl ?_
  have hX2b := hX
  refine jr_putT (q := 131) (L0 := xb_0) (L1 := xb_1) hz hx hv hX (Or.inl ⟨_, hso1⟩) xk_1 rfl jw_1596 rfl rfl (by omega) (by omega) rfl dL_law_128 rfl (fun σ2 hT2 hF2 => ?_)
  refine jk_aload_n (q := 132) dL_law_131 rfl rfl ?_
  refine jr_runs (q := 135) (P0 := zP0) (e9 := -1) (f9 := 1) (r := -2) hz hx hv hzn hzn2 hT2 (by omega) jw_1704 rfl rfl (by omega) (by omega) rfl dL_law_132 rfl (Or.inr ⟨xw_1, xf_1 hg0, rfl, rfl, by decide, by decide⟩) (fun n3 σ3 ρ3 hX3 hF3 => ?_)
  have hm3 := hF3.1
  refine jk_bipush (q := 137) (y := -2) dL_law_135 rfl (by decide) ?_
  refine jk_icmp_ne (q := 157) (q2 := 140) dL_law_137 rfl rfl (by first | decide | exact jk_w_in _ | exact ⟨by omega, by omega⟩) (by first | decide | exact jk_w_in _ | exact ⟨by omega, by omega⟩) (fun h => absurd (by first | rfl | omega) h) (fun _ => ?_)
  refine jk_aload_n (q := 141) dL_law_140 rfl rfl ?_
  refine jr_qv (q := 144) (As := []) (val := jI (1)) hX3 (c_X12_failedCommand (e := 1)  hz hx hX3.1.1.1 hX3.1.1.2.1 hX3.1.2.1.1 hX3.1.1.2.2.1 hX3.1.2.1.2 hX3.2.2.2.2.1.2.2.1 ⟨by decide, by decide⟩) (fun E n' t' σ' ρ' h => h.1) (by decide) rfl jm_X12_failedCommand jw_1570 rfl rfl rfl rfl (by omega) (by omega) rfl dL_law_141 rfl (fun σ4 hX4 hF4 => ?_)
  refine jk_iconst (q := 145) dL_law_144 rfl ?_
  refine jk_icmp_ne (q := 157) (q2 := 148) dL_law_145 rfl rfl (by first | decide | exact jk_w_in _ | exact ⟨by omega, by omega⟩) (by first | decide | exact jk_w_in _ | exact ⟨by omega, by omega⟩) (fun h => absurd (by first | rfl | omega) h) (fun _ => ?_)
  refine jk_aload_n (q := 149) dL_law_148 rfl rfl ?_
  refine jt_state (q := 152) hz hx hzn hzn2 hX4 jw_1655 rfl rfl (by omega) (by omega) rfl dL_law_149 rfl (fun n5 σ5 hX5 hF5 => ?_)
  have hm5 := hF5.1
  refine jk_iload (q := 154) dL_law_152 rfl rfl ?_
  refine jk_icmp_eq (q := 159) (q2 := 157) dL_law_154 rfl rfl (by first | decide | exact jk_w_in _ | exact ⟨by omega, by omega⟩) (by first | decide | exact jk_w_in _ | exact ⟨by omega, by omega⟩) (fun _ => ?_) (fun h => absurd (by first | rfl | omega) h)
  refine jk_aload_n (q := 160) dL_law_159 rfl rfl ?_
  obtain ⟨a6, b6, hR6, hso6⟩ := xs_236 hs
  refine jk_ldcS (q := 162) hR6 dL_law_160 rfl ?_
  have hX7b := hX5
  refine jr_putT (q := 165) (L0 := xb_1) (L1 := xb_2) hz hx hv hX5 (Or.inl ⟨_, hso6⟩) xk_2 rfl jw_1596 rfl rfl (by omega) (by omega) rfl dL_law_162 rfl (fun σ7 hT7 hF7 => ?_)
  refine jk_aload_n (q := 166) dL_law_165 rfl rfl ?_
  refine jr_runs (q := 169) (P0 := zP0) (e9 := -1) (f9 := 0) (r := -2) hz hx hv hzn hzn2 hT7 (by omega) jw_1704 rfl rfl (by omega) (by omega) rfl dL_law_166 rfl (Or.inr ⟨xw_2, xf_2 _, rfl, rfl, by decide, by decide⟩) (fun n8 σ8 ρ8 hX8 hF8 => ?_)
  have hm8 := hF8.1
  refine jk_bipush (q := 171) (y := -2) dL_law_169 rfl (by decide) ?_
  refine jk_icmp_ne (q := 190) (q2 := 174) dL_law_171 rfl rfl (by first | decide | exact jk_w_in _ | exact ⟨by omega, by omega⟩) (by first | decide | exact jk_w_in _ | exact ⟨by omega, by omega⟩) (fun h => absurd (by first | rfl | omega) h) (fun _ => ?_)
  refine jk_aload_n (q := 175) dL_law_174 rfl rfl ?_
  refine jr_qv (q := 178) (As := []) (val := jI (0)) hX8 (c_X12_failedCommand (e := 0)  hz hx hX8.1.1.1 hX8.1.1.2.1 hX8.1.2.1.1 hX8.1.1.2.2.1 hX8.1.2.1.2 hX8.2.2.2.2.1.2.2.1 ⟨by decide, by decide⟩) (fun E n' t' σ' ρ' h => h.1) (by decide) rfl jm_X12_failedCommand jw_1570 rfl rfl rfl rfl (by omega) (by omega) rfl dL_law_175 rfl (fun σ9 hX9 hF9 => ?_)
  refine jk_ifN_ne (q := 181) (by decide) (by decide) dL_law_178 rfl rfl ?_
  refine jk_aload_n (q := 182) dL_law_181 rfl rfl ?_
  refine jt_state (q := 185) hz hx hzn hzn2 hX9 jw_1655 rfl rfl (by omega) (by omega) rfl dL_law_182 rfl (fun n10 σ10 hX10 hF10 => ?_)
  have hm10 := hF10.1
  refine jk_iload (q := 187) dL_law_185 rfl rfl ?_
  refine jk_icmp_eq (q := 192) (q2 := 190) dL_law_187 rfl rfl (by first | decide | exact jk_w_in _ | exact ⟨by omega, by omega⟩) (by first | decide | exact jk_w_in _ | exact ⟨by omega, by omega⟩) (fun _ => ?_) (fun h => absurd (by first | rfl | omega) h)
  exact jL4 hz hx hv hzp hzq hzn hzn2 hs hq hX10 (by omega) (by omega) (by omega)
set_option maxRecDepth 20000 in
set_option maxHeartbeats 4000000 in
theorem jL2 {G : jk_G} {n : Nat} {t : jk_T} {σ : jk_I} {ρ : jk_P} {L : Nat} {fq : Nat → Int} {g : Int → Int} {c y : Nat} {H : Nat → Int → Int} {rc rs : Nat} (hz : zz_ok G) (hx : zx_ok G) (hv : zv_ok G) (hzp : zp_ok G) (hzq : zq2_ok G) (hzn : zn_ok G) (hzn2 : zn2_ok G) (hs : xs_ok G) (hq : zq_ok G L fq) (hg0 : g 0 ≤ 7) (hy : 646 ≤ y) (hX : pX 64 644 16 (g, c, H) 12000 0 (fun _ => 0) (tb []) (-1) (-1) [] n t σ ρ) (hY : pX y (y + 580) 16 (g, c, H) 12000 0 (fun _ => 0) (fun _ => 0) (-1) (-1) [] n t σ ρ) (hrc : 24850 ≤ rc) (hrs : 204220 ≤ rs) : jk_J G mL_law 10 [some (.ref 63), some (.ref 64), some (.ref y), none, none, none, none] [] n t σ ρ rc rs lq_Q jk_no := by
  have hc9 : c ≤ 8 := hX.1.2.2.1
  have hbc := hs_pc_bd c hc9
  have b2 := hs_pc_bd (hs_pc c) hbc.2.2.1
  have b3 := hs_pc_bd (hs_pc (hs_pc c)) b2.2.2.1
  have i0 : 0 ≤ g 0 ∧ g 0 ≤ 10 := hX.1.2.1.1.1.1
  have hA1 : pA 64 644 y (y + 580) := ⟨by omega, by omega, by omega, by omega⟩
  have hA2 : pA y (y + 580) 64 644 := ⟨by omega, by omega, by omega, by omega⟩
  refine jk_aload_n (q := 11) dL_law_10 rfl rfl ?_
  refine jt_save (q := 14) hz hx hX jw_1584 rfl rfl rfl dL_law_11 rfl (fun σ1 hX1 hF1 => ?_)
  have hY1 := pX_keep hY hF1 hA1
  refine jk_istore3 (q := 15) dL_law_14 rfl rfl rfl ?_
  refine jk_aload_n (q := 16) dL_law_15 rfl rfl ?_
  refine jt_state (q := 19) hz hx hzn hzn2 hX1 jw_1655 rfl rfl (by omega) (by omega) rfl dL_law_16 rfl (fun n2 σ2 hX2 hF2 => ?_)
  have hm2 := hF2.1
  have hY2 := pX_keep hY1 hF2 hA1
  refine jk_istore4 (q := 21) dL_law_19 rfl rfl rfl ?_
  refine jk_aload_n (q := 22) dL_law_21 rfl rfl ?_
  obtain ⟨a3, b3, hR3, hso3⟩ := xs_212 hs
  refine jk_ldcS (q := 24) hR3 dL_law_22 rfl ?_
  have hX4b := hX2
  refine jr_putT (q := 27) (L0 := []) (L1 := xb_0) hz hx hv hX2 (Or.inl ⟨_, hso3⟩) xk_0 rfl jw_1596 rfl rfl (by omega) (by omega) rfl dL_law_24 rfl (fun σ4 hT4 hF4 => ?_)
  have hY4 := pX_keep hY2 hF4 hA1
  refine jk_aload_n (q := 28) dL_law_27 rfl rfl ?_
  refine jt_run (q := 31) (N := 3) (P0 := zP0) hz hx hv hT4 (by omega) (xw_0) (xf_0 hg0) (xn_0) ((xg_gk _).trans (xg_eq hg0)) jw_1503 rfl rfl (by omega) (by omega) rfl dL_law_28 rfl (fun σ5 ρ5 hX5 hF5 => ?_)
  have hY5 := pX_keep hY4 hF5 hA1
  refine jk_iconst (q := 32) dL_law_31 rfl ?_
  refine jk_icmp_ne (q := 75) (q2 := 35) dL_law_32 rfl rfl (by first | decide | exact jk_w_in _ | exact ⟨by omega, by omega⟩) (by first | decide | exact jk_w_in _ | exact ⟨by omega, by omega⟩) (fun h => absurd (by first | rfl | omega) h) (fun _ => ?_)
  refine jk_aload_n (q := 36) dL_law_35 rfl rfl ?_
  refine jt_c (q := 39) (As := []) (k := 0) (a := 0) (b := 0) (c9 := 0) (d := 0) hY5 (c_X12_addBenchmark  hz hx hY5.1.1.1 hY5.1.1.2.1 hY5.1.2.1.1 hY5.1.1.2.2.1 hY5.1.2.1.2 hY5.1.1.2.2.2 (fun j hj => st_2 (hY5.1.2.2.2 j hj)) ) (md_point0 hg0) (by omega) jm_X12_addBenchmark jw_421 rfl rfl rfl rfl (by omega) (by omega) rfl dL_law_36 rfl (fun σ6 hY6 hF6 => ?_)
  have hX6k := pX_keep hX5 hF6 hA2
  refine jk_if_lt (q := 75) (q2 := 42) dL_law_39 rfl rfl (by first | decide | exact jk_w_in _ | exact ⟨by omega, by omega⟩) (fun h => absurd h (by omega)) (fun _ => ?_)
  refine jk_aload_n (q := 43) dL_law_42 rfl rfl ?_
  refine jk_bipush (q := 45) (y := 9) dL_law_43 rfl (by decide) ?_
  refine jk_bipush (q := 47) (y := -7) dL_law_45 rfl (by decide) ?_
  refine jk_iconst (q := 48) dL_law_47 rfl ?_
  refine jk_iconst (q := 49) dL_law_48 rfl ?_
  have i3 : -99999 ≤ jk_set g 0 (g 0 + 1) 3 ∧ jk_set g 0 (g 0 + 1) 3 ≤ 99999 := hY6.1.2.1.1.1.2.2.2.1
  refine jt_a9 (q := 52) hz hx hzn hzn2 hY6 (by omega) (by decide) (by decide) jw_1614 rfl rfl (by omega) (by omega) rfl dL_law_49 rfl (fun n7 σ7 hY7 hF7 => ?_)
  have hm7 := hF7.1
  have hX7k := pX_keep hX6k hF7 hA2
  refine jk_ldcV (q := 54) (x := -150000) jw_1722 (by decide) dL_law_52 rfl ?_
  refine jk_icmp_lt (q := 75) (q2 := 57) dL_law_54 rfl rfl (by first | decide | exact jk_w_in _ | exact ⟨by omega, by omega⟩) (by first | decide | exact jk_w_in _ | exact ⟨by omega, by omega⟩) (fun h => absurd h (by omega)) (fun _ => ?_)
  refine jk_aload_n (q := 58) dL_law_57 rfl rfl ?_
  have ir := rs_in hY7.1.2.1.1.1.2.1
  have ir : 0 ≤ (md_resets (jk_set (jk_set g 0 (g 0 + 1)) 3 (-7))).2.1 ∧ (md_resets (jk_set (jk_set g 0 (g 0 + 1)) 3 (-7))).2.1 ≤ 16 := ir
  refine jt_c (q := 61) (As := []) (k := 8) (a := 0) (b := 0) (c9 := 0) (d := 0) hY7 (c_X12_resetCorrections  hz hx hY7.1.1.1 hY7.1.1.2.1 hY7.1.2.1.1 hY7.1.1.2.2.1 hY7.1.2.1.2 hY7.1.1.2.2.2 (fun j hj => st_2 (hY7.1.2.2.2 j hj)) ) (rs_eq _) (by omega) jm_X12_resetCorrections jw_839 rfl rfl rfl rfl (by omega) (by omega) rfl dL_law_58 rfl (fun σ8 hY8 hF8 => ?_)
  have hX8k := pX_keep hX7k hF8 hA2
  refine jk_if_lt (q := 75) (q2 := 64) dL_law_61 rfl rfl (by first | decide | exact jk_w_in _ | exact ⟨by omega, by omega⟩) (fun h => absurd h (by omega)) (fun _ => ?_)
  refine jk_aload_n (q := 65) dL_law_64 rfl rfl ?_
  refine jt_state (q := 68) hz hx hzn hzn2 hX8k jw_1655 rfl rfl (by omega) (by omega) rfl dL_law_65 rfl (fun n9 σ9 hX9 hF9 => ?_)
  have hm9 := hF9.1
  have hY9 := pX_keep hY8 hF9 hA1
  refine jk_aload_n (q := 69) dL_law_68 rfl rfl ?_
  refine jt_state (q := 72) hz hx hzn hzn2 hY9 jw_1655 rfl rfl (by omega) (by omega) rfl dL_law_69 rfl (fun n10 σ10 hY10 hF10 => ?_)
  have hm10 := hF10.1
  have hX10k := pX_keep hX9 hF10 hA2
  refine jk_icmp_eq (q := 77) (q2 := 75) dL_law_72 rfl rfl (by first | decide | exact jk_w_in _ | exact ⟨by omega, by omega⟩) (by first | decide | exact jk_w_in _ | exact ⟨by omega, by omega⟩) (fun _ => ?_) (fun h => absurd (by first | rfl | omega) h)
  refine jk_aload_n (q := 78) dL_law_77 rfl rfl ?_
  refine jt_undo (q := 81) hz hx hX10k (hbc.2.1) jw_1575 rfl rfl (by omega) (by omega) rfl dL_law_78 rfl (fun σ11 hX11 hF11 => ?_)
  replace hX11 := pX_g hX11 (hs_1 hc9)
  have hY11 := pX_keep hY10 hF11 hA1
  refine jk_if_lt (q := 123) (q2 := 84) dL_law_81 rfl rfl (by first | decide | exact jk_w_in _ | exact ⟨by omega, by omega⟩) (fun h => absurd h (by omega)) (fun _ => ?_)
  refine jk_aload_n (q := 85) dL_law_84 rfl rfl ?_
  refine jt_state (q := 88) hz hx hzn hzn2 hX11 jw_1655 rfl rfl (by omega) (by omega) rfl dL_law_85 rfl (fun n12 σ12 hX12 hF12 => ?_)
  have hm12 := hF12.1
  have hY12 := pX_keep hY11 hF12 hA1
  refine jk_iload (q := 90) dL_law_88 rfl rfl ?_
  refine jk_icmp_ne (q := 123) (q2 := 93) dL_law_90 rfl rfl (by first | decide | exact jk_w_in _ | exact ⟨by omega, by omega⟩) (by first | decide | exact jk_w_in _ | exact ⟨by omega, by omega⟩) (fun h => absurd (by first | rfl | omega) h) (fun _ => ?_)
  refine jk_aload_n (q := 94) dL_law_93 rfl rfl ?_
  refine jt_undo (q := 97) hz hx hY12 (by omega) jw_1575 rfl rfl (by omega) (by omega) rfl dL_law_94 rfl (fun σ13 hY13 hF13 => ?_)
  have hX13k := pX_keep hX12 hF13 hA2
  refine jk_if_lt (q := 123) (q2 := 100) dL_law_97 rfl rfl (by first | decide | exact jk_w_in _ | exact ⟨by omega, by omega⟩) (fun h => absurd h (by omega)) (fun _ => ?_)
  refine jk_aload_n (q := 101) dL_law_100 rfl rfl ?_
  refine jt_undo (q := 104) hz hx hY13 (by omega) jw_1575 rfl rfl (by omega) (by omega) rfl dL_law_101 rfl (fun σ14 hY14 hF14 => ?_)
  have hX14k := pX_keep hX13k hF14 hA2
  refine jk_if_lt (q := 123) (q2 := 107) dL_law_104 rfl rfl (by first | decide | exact jk_w_in _ | exact ⟨by omega, by omega⟩) (fun h => absurd h (by omega)) (fun _ => ?_)
  refine jk_aload_n (q := 108) dL_law_107 rfl rfl ?_
  refine jt_undo (q := 111) hz hx hY14 (by omega) jw_1575 rfl rfl (by omega) (by omega) rfl dL_law_108 rfl (fun σ15 hY15 hF15 => ?_)
  replace hY15 := pX_g hY15 (hs_3 hc9)
  have hX15k := pX_keep hX14k hF15 hA2
  refine jk_if_lt (q := 123) (q2 := 114) dL_law_111 rfl rfl (by first | decide | exact jk_w_in _ | exact ⟨by omega, by omega⟩) (fun h => absurd h (by omega)) (fun _ => ?_)
  refine jk_aload_n (q := 115) dL_law_114 rfl rfl ?_
  refine jt_state (q := 118) hz hx hzn hzn2 hY15 jw_1655 rfl rfl (by omega) (by omega) rfl dL_law_115 rfl (fun n16 σ16 hY16 hF16 => ?_)
  have hm16 := hF16.1
  have hX16k := pX_keep hX15k hF16 hA2
  refine jk_iload (q := 120) dL_law_118 rfl rfl ?_
  refine jk_icmp_eq (q := 125) (q2 := 123) dL_law_120 rfl rfl (by first | decide | exact jk_w_in _ | exact ⟨by omega, by omega⟩) (by first | decide | exact jk_w_in _ | exact ⟨by omega, by omega⟩) (fun _ => ?_) (fun h => absurd (by first | rfl | omega) h)
  exact jL3 hz hx hv hzp hzq hzn hzn2 hs hq hg0 hX16k (by omega) (by omega) (by omega)
theorem lw_all {G : jk_G} {t : jk_T} {σ : jk_I} {ρ : jk_P} {L : Nat} {fq : Nat → Int} {rc rs : Nat} (hz : zz_ok G) (hx : zx_ok G) (hv : zv_ok G) (hzp : zp_ok G) (hzq : zq2_ok G) (hzn : zn_ok G) (hzn2 : zn2_ok G) (hs : xs_ok G) (hq : zq_ok G L fq) (hrc : 30850 ≤ rc) (hrs : 254220 ≤ rs) : jk_J G mL_law 0 [some (.ref 63), none, none, none, none, none, none] [] 64 t σ ρ rc rs lq_Q jk_no := by
  refine jk_aload_n (q := 1) dL_law_0 rfl rfl ?_
  refine jk_cS1g (q := 4) (c_build hz hx hzn hzn2 hq (by decide)) jm_L_build jw_1611 rfl rfl (by omega) (by omega) rfl dL_law_1 rfl (fun v' n1 t1 σ1 ρ1 h1 => ?_) (fun _ _ _ _ _ h => h.elim)
  obtain ⟨rfl, hm1, hX1, hk1⟩ := h1
  simp only [Option.toList_some, List.cons_append, List.nil_append]
  have hn1 := hX1.2.1.2.1
  refine jk_astore1 (q := 5) dL_law_4 rfl rfl rfl ?_
  refine jk_aload_n (q := 6) dL_law_5 rfl rfl ?_
  refine jk_cS1g (q := 9) (c_build hz hx hzn hzn2 hq (by omega)) jm_L_build jw_1611 rfl rfl (by omega) (by omega) rfl dL_law_6 rfl (fun v' n2 t2 σ2 ρ2 h2 => ?_) (fun _ _ _ _ _ h => h.elim)
  obtain ⟨rfl, hm2, hY2, hk2⟩ := h2
  simp only [Option.toList_some, List.cons_append, List.nil_append]
  refine jk_astore2 (q := 10) dL_law_9 rfl rfl rfl ?_
  have hX2 := pX_up hX1 hm2 hk2
  have hg0 := bz_g0 (fA L fq)
  generalize bz (fA L fq) = S at hX2 hY2 hg0
  obtain ⟨g, c, H⟩ := S
  exact jL2 hz hx hv hzp hzq hzn hzn2 hs hq hg0 hn1 (by rw [tb_nil]; exact hX2) hY2 (by omega) (by omega)
end PQ
