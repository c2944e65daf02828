section PH
theorem jk_iremZ {G : jk_G} {M : jk_M} {pc q : Nat} {ls : List (Option Value)} {st : List Value} {n : Nat} {t : jk_T} {σ : jk_I} {ρ : jk_P} {rc rs : Nat} {Q : jk_Q} {X : jk_X} {x y : Int} (hd : decode (jk_cc M) pc = .ok (.irem, 1)) (hp : pc + 1 = q) (h1 : jk_in x) (h2 : jk_in y) (h0 : y ≠ 0) (k : jk_J G M q ls (jI (jk_rm x y) :: st) n t σ ρ rc rs Q X) : jk_J G M pc ls (jI y :: jI x :: st) n t σ ρ rc rs Q X := jk_irem hd hp h1 h2 h0 k
theorem jk_rm_bd {x y : Int} (hx : 0 ≤ x) (hy : 0 < y) : 0 ≤ jk_rm x y ∧ jk_rm x y < y := by
  unfold jk_rm
  rw [Int.tdiv_eq_ediv_of_nonneg hx]
  have h1 := Int.emod_nonneg x (show y ≠ 0 by omega)
  have h2 := Int.emod_lt_of_pos x hy
  have h3 := Int.emod_def x y
  rw [Int.mul_comm] at h3
  omega
/-- the p-th of those that are counted is found -/
theorem jk_fnd_cnt {F : Int → Bool} {p : Int} (hp : 0 ≤ p) {P : Int → Bool} (hP : ∀ l : Nat, P (l : Int) = (F (l : Int) && decide (jk_sum (fun x => jB (F x)) l = p))) : ∀ N : Nat, p < jk_sum (fun x => jB (F x)) N → jk_fnd P N ≠ -1
  | 0, h => absurd h (by show ¬ p < 0; omega)
  | N + 1, h => by
    have hs : jk_sum (fun x => jB (F x)) (N + 1) = jk_sum (fun x => jB (F x)) N + jB (F (N : Int)) := rfl
    rw [hs] at h
    unfold jk_fnd
    split
    · rename_i h1
      have h2 : ¬ p < jk_sum (fun x => jB (F x)) N := fun h3 => jk_fnd_cnt hp hP N h3 h1
      have hF : F (N : Int) = true := by
        cases hF : F (N : Int)
        · rw [hF, jB_f] at h; omega
        · rfl
      rw [hF, jB_t] at h
      have hPN : P (N : Int) = true := by rw [hP N, hF, Bool.true_and]; exact decide_eq_true (by omega)
      rw [if_pos hPN]
      omega
    · rename_i h1; exact h1
/-! what build makes of a script -/
def bz_a (S : ps_S) : Nat → ps_S
  | 0 => S
  | k + 1 => ps_do 0 (bz_a S k) 0 0 0 0
def bz_f (z pts : Int) (S : ps_S) : Nat → ps_S
  | 0 => S
  | k + 1 => if jk_and (jk_sr z (2 + (k : Int))) 1 = 1 then ps_do 1 (bz_f z pts S k) (jk_w (jk_rm (jk_and (jk_sr z (4 + 3 * (k : Int))) 7) pts)) (jk_w (jk_and (jk_sr z 10) 1023 - 300)) 0 0 else bz_f z pts S k
def bz_p (z pts : Int) (S : ps_S) : ps_S := ps_do 9 S (jk_w (jk_rm (jk_and (jk_sr z 20) 7) pts)) 0 0 0
def bz_s (z : Int) (S : ps_S) : Nat → ps_S
  | 0 => S
  | k + 1 => ps_do 10 (bz_s z S k) (jk_w 0) (jk_w (3 + 7 * (k : Int) + jk_and (jk_sr z (k : Int)) 3)) (jk_w (jk_and (jk_sr z (3 * (k : Int))) 511 - 256)) 0
def bz_one (pts c : Int) : Int := jk_rm (jk_and c 7) pts
def bz_oth (pts c : Int) : Int := jk_rm (jk_and (jk_sr c 3) 7) pts
def bz_rise (pts c : Int) : Int := 20 * (bz_oth pts c - bz_one pts c) + jk_and (jk_sr c 6) 15 - 8
def bz_0 (pts c : Int) (S : ps_S) : ps_S := ps_do 3 S (jk_w (bz_one pts c)) (jk_w (bz_oth pts c)) (jk_w (bz_rise pts c)) (jk_w (1 + jk_and (jk_sr c 10) 15))
def bz_ls (S : ps_S) : Int := if (1 : Int) < S.1 1 then S.1 1 else 1
def bz_1 (pts c : Int) (S : ps_S) : ps_S := if jk_and (jk_sr c 14) 3 = 0 then ps_do 4 S (jk_w (S.1 1 - 1)) (jk_w (-bz_rise pts c + jk_and (jk_sr c 16) 15 - 8)) 0 0 else S
def bz_2 (ls c : Int) (S : ps_S) : ps_S := if jk_and (jk_sr c 14) 7 = 1 then ps_do 5 S (jk_w (jk_rm (jk_and (jk_sr c 17) 15) ls)) 0 0 0 else S
def bz_3 (ls c : Int) (S : ps_S) : ps_S := if jk_and (jk_sr c 14) 7 = 5 then ps_do 6 S (jk_w (jk_rm (jk_and (jk_sr c 17) 15) ls)) 0 0 0 else S
def bz_4 (c : Int) (S : ps_S) : ps_S := if jk_and (jk_sr c 14) 3 = 2 then (if (md_q_lo S.1).2 ≤ 0 then S else ps_do 7 S (jk_w (md_q_la S.1 (jk_rm (jk_and (jk_sr c 17) 7) (md_q_lo S.1).2)).2) 0 0 0) else S
def bz_5 (c : Int) (S : ps_S) : ps_S := if jk_and (jk_sr c 21) 7 = 0 then ps_do 11 S (jk_w (jk_and (jk_sr c 24) 127 - 40)) 0 0 0 else S
def bz_6 (pts c : Int) (S : ps_S) : ps_S := if jk_and (jk_sr c 21) 7 = 1 then ps_do 9 S (jk_w (jk_rm (jk_and (jk_sr c 24) 7) pts)) 0 0 0 else S
def bz_7 (c : Int) (S : ps_S) : ps_S := if jk_and (jk_sr c 21) 3 = 2 then ps_do 10 S (jk_w (jk_and (jk_sr c 24) 3)) (jk_w (30 + jk_and (jk_sr c 26) 63)) (jk_w (jk_and (jk_sr c 8) 127 - 64)) 0 else S
def bz_8 (pts c : Int) (S : ps_S) : ps_S := if jk_and (jk_sr c 21) 7 = 3 then ps_do 1 S (jk_w (jk_rm (jk_and (jk_sr c 24) 7) pts)) (jk_w (jk_and (jk_sr c 5) 255 - 100)) 0 0 else S
def bz_9 (pts c : Int) (S : ps_S) : ps_S := if jk_and (jk_sr c 21) 7 = 7 then ps_do 2 S (jk_w (jk_rm (jk_and (jk_sr c 24) 7) pts)) 0 0 0 else S
def bz_it (pts c : Int) (S : ps_S) : ps_S := bz_9 pts c (bz_8 pts c (bz_7 c (bz_6 pts c (bz_5 c (bz_4 c (bz_3 (bz_ls (bz_0 pts c S)) c (bz_2 (bz_ls (bz_0 pts c S)) c (bz_1 pts c (bz_0 pts c S)))))))))
def bz_l (f : Int → Int) (pts : Int) (S : ps_S) : Nat → ps_S
  | 0 => S
  | k + 1 => bz_it pts (f ((k : Int) + 1)) (bz_l f pts S k)
def bz_pts (f : Int → Int) : Int := 4 + jk_and (f 0) 3
def bz_S0 : ps_S := (fun _ => 0, 0, fun _ _ => 0)
def bz_A (f : Int → Int) : ps_S := bz_s (f 0) (bz_p (f 0) (bz_pts f) (bz_f (f 0) (bz_pts f) (bz_a bz_S0 (bz_pts f).toNat) 2)) 4
def bz (f : Int → Int) : ps_S := bz_l f (bz_pts f) (bz_A f) 12
theorem bj_1 {G : jk_G} {n : Nat} {t : jk_T} {σ : jk_I} {ρ : jk_P} {x : Nat} {S : ps_S} {B : Int} {C E : Nat} {Q : jk_Q} {X : jk_X} (hz : zz_ok G) (hx : zx_ok G) (hzn : zn_ok G) (hzn2 : zn2_ok G) {z pts i c ls : Int} (hqf : True) (hpts : 4 ≤ pts ∧ pts ≤ 7) (hls : 1 ≤ ls ∧ ls ≤ 16) (hi : 1 ≤ i ∧ i ≤ 12) (hat : pc_at x S t σ ρ) (hok : pc_ok B S) (hB : B + 85 ≤ 1100000) (kk : ∀ n' σ' rc rs, n ≤ n' → pc_at x (bz_1 pts c S) t σ' ρ → pc_ok (B + 85) (bz_1 pts c S) → ln_fc x σ σ' → C ≤ rc → E ≤ rs → jk_J G mL_build 301 [some (.ref 63), some (.ref x), some (jI z), some (jI pts), some (jI i), some (jI c), some (jI (bz_one pts c)), some (jI (bz_oth pts c)), some (jI (bz_rise pts c)), some (jI ls)] [] n' t σ' ρ rc rs Q X) : ∀ rc rs, C + 20 ≤ rc → E + 120 ≤ rs → jk_J G mL_build 263 [some (.ref 63), some (.ref x), some (jI z), some (jI pts), some (jI i), some (jI c), some (jI (bz_one pts c)), some (jI (bz_oth pts c)), some (jI (bz_rise pts c)), some (jI ls)] [] n t σ ρ rc rs Q X := by
  intro rc rs hrc hrs
  have hfc0 : ln_fc x σ σ := fun _ _ _ => rfl
  have i1 := hok.1.1.1.2.1
  refine jk_iload (q := 265) dL_build_263 rfl rfl ?_
  refine jk_bipush (q := 267) (y := 14) dL_build_265 rfl (by decide) ?_
  refine jk_ishrZ (q := 268) dL_build_267 rfl ?_
  refine jk_iconst (q := 269) dL_build_268 rfl ?_
  refine jk_iandZ (q := 270) dL_build_269 rfl ?_
  refine jk_if_ne (q := 301) (q2 := 273) dL_build_270 rfl rfl (by first | assumption | decide | omega | exact jk_and_in _ _ | exact fA_in hqf _ | exact ⟨by omega, by omega⟩) (fun z1 => ?_) (fun z1 => ?_)
  · have e9 : bz_1 pts c S = S := if_neg ‹_›
    exact kk _ _ _ _ (by omega) (by rw [e9]; exact hat) (by rw [e9]; exact pc_ok_up hok (by omega) hB) hfc0 (by omega) (by omega)
  · refine jk_aload_n (q := 274) dL_build_273 rfl rfl ?_
    refine jk_iconst (q := 275) dL_build_274 rfl ?_
    refine jk_aload_n (q := 276) dL_build_275 rfl rfl ?_
    refine jq_call (q := 279) (As := []) (c_X12_lineCount  hz hx hat.1 hat.2.1 hok.1.1 hat.2.2.1 hok.1.2 ) rfl jm_X12_lineCount jw_1650 rfl hat.1.1 rfl rfl rfl (by omega) (by omega) rfl dL_build_276 rfl (fun σ1 hg1 => ?_)
    have hat1 : pc_at x S t σ1 ρ := ⟨hat.1, ln_fr_rel (st_2 hok.1) hat.2.1 hg1, ln_fr_nn hat.2.2.1 hg1, hs_rel_fr hat.2.2.2 (fun j hj => st_2 (hok.2.2 j hj)) (fun a g1 g2 => hg1 a (Or.inl g2))⟩
    have hfc1 : ln_fc x σ σ1 := fun a g1 g2 => (pc_fc hg1 a g1 g2).trans (hfc0 a g1 g2)
    refine jk_iconst (q := 280) dL_build_279 rfl ?_
    refine jk_isub (q := 281) dL_build_280 rfl ?_
    refine jk_iload (q := 283) dL_build_281 rfl rfl ?_
    refine jk_ineg (q := 284) dL_build_283 rfl ?_
    refine jk_iload (q := 286) dL_build_284 rfl rfl ?_
    refine jk_bipush (q := 288) (y := 16) dL_build_286 rfl (by decide) ?_
    refine jk_ishrZ (q := 289) dL_build_288 rfl ?_
    refine jk_bipush (q := 291) (y := 15) dL_build_289 rfl (by decide) ?_
    refine jk_iandZ (q := 292) dL_build_291 rfl ?_
    refine jk_iadd (q := 293) dL_build_292 rfl ?_
    refine jk_bipush (q := 295) (y := 8) dL_build_293 rfl (by decide) ?_
    refine jk_isub (q := 296) dL_build_295 rfl ?_
    refine jk_iconst (q := 297) dL_build_296 rfl ?_
    refine jc_act_3 (q := 300) hz hx hzn hzn2 hat1 hok jw_1614 rfl rfl (by omega) (by omega) rfl dL_build_297 rfl (fun n2 σ2 hm2 hat2 hg2 => ?_)
    have hfc2 : ln_fc x σ σ2 := fun a g1 g2 => (hg2 a g1 g2).trans (hfc1 a g1 g2)
    refine jk_pop (q := 301) dL_build_300 rfl rfl ?_
    have e9 : bz_1 pts c S = _ := if_pos ‹_›
    exact kk _ _ _ _ (by omega) (by rw [e9]; exact hat2) (by rw [e9]; exact pc_ok_do hok hB _ _ _ _ _) hfc2 (by omega) (by omega)
theorem bj_2 {G : jk_G} {n : Nat} {t : jk_T} {σ : jk_I} {ρ : jk_P} {x : Nat} {S : ps_S} {B : Int} {C E : Nat} {Q : jk_Q} {X : jk_X} (hz : zz_ok G) (hx : zx_ok G) (hzn : zn_ok G) (hzn2 : zn2_ok G) {z pts i c ls : Int} (hqf : True) (hpts : 4 ≤ pts ∧ pts ≤ 7) (hls : 1 ≤ ls ∧ ls ≤ 16) (hi : 1 ≤ i ∧ i ≤ 12) (hat : pc_at x S t σ ρ) (hok : pc_ok B S) (hB : B + 85 ≤ 1100000) (kk : ∀ n' σ' rc rs, n ≤ n' → pc_at x (bz_2 ls c S) t σ' ρ → pc_ok (B + 85) (bz_2 ls c S) → ln_fc x σ σ' → C ≤ rc → E ≤ rs → jk_J G mL_build 332 [some (.ref 63), some (.ref x), some (jI z), some (jI pts), some (jI i), some (jI c), some (jI (bz_one pts c)), some (jI (bz_oth pts c)), some (jI (bz_rise pts c)), some (jI ls)] [] n' t σ' ρ rc rs Q X) : ∀ rc rs, C + 20 ≤ rc → E + 120 ≤ rs → jk_J G mL_build 301 [some (.ref 63), some (.ref x), some (jI z), some (jI pts), some (jI i), some (jI c), some (jI (bz_one pts c)), some (jI (bz_oth pts c)), some (jI (bz_rise pts c)), some (jI ls)] [] n t σ ρ rc rs Q X := by
  intro rc rs hrc hrs
  have hfc0 : ln_fc x σ σ := fun _ _ _ => rfl
  have i1 := hok.1.1.1.2.1
  refine jk_iload (q := 303) dL_build_301 rfl rfl ?_
  refine jk_bipush (q := 305) (y := 14) dL_build_303 rfl (by decide) ?_
  refine jk_ishrZ (q := 306) dL_build_305 rfl ?_
  refine jk_bipush (q := 308) (y := 7) dL_build_306 rfl (by decide) ?_
  refine jk_iandZ (q := 309) dL_build_308 rfl ?_
  refine jk_iconst (q := 310) dL_build_309 rfl ?_
  refine jk_icmp_ne (q := 332) (q2 := 313) dL_build_310 rfl rfl (by first | assumption | decide | omega | exact jk_and_in _ _ | exact fA_in hqf _ | exact ⟨by omega, by omega⟩) (by first | assumption | decide | omega | exact jk_and_in _ _ | exact fA_in hqf _ | exact ⟨by omega, by omega⟩) (fun z1 => ?_) (fun z1 => ?_)
  · have e9 : bz_2 ls c S = S := if_neg ‹_›
    exact kk _ _ _ _ (by omega) (by rw [e9]; exact hat) (by rw [e9]; exact pc_ok_up hok (by omega) hB) hfc0 (by omega) (by omega)
  · refine jk_aload_n (q := 314) dL_build_313 rfl rfl ?_
    refine jk_iconst (q := 315) dL_build_314 rfl ?_
    refine jk_iload (q := 317) dL_build_315 rfl rfl ?_
    refine jk_bipush (q := 319) (y := 17) dL_build_317 rfl (by decide) ?_
    refine jk_ishrZ (q := 320) dL_build_319 rfl ?_
    refine jk_bipush (q := 322) (y := 15) dL_build_320 rfl (by decide) ?_
    refine jk_iandZ (q := 323) dL_build_322 rfl ?_
    refine jk_iload (q := 325) dL_build_323 rfl rfl ?_
    refine jk_iremZ (q := 326) dL_build_325 rfl (jk_and_in _ _) (by first | assumption | decide | omega | exact jk_and_in _ _ | exact fA_in hqf _ | exact ⟨by omega, by omega⟩) (by first | assumption | decide | omega | exact jk_and_in _ _ | exact fA_in hqf _ | exact ⟨by omega, by omega⟩) ?_
    refine jk_iconst (q := 327) dL_build_326 rfl ?_
    refine jk_iconst (q := 328) dL_build_327 rfl ?_
    refine jc_act_4 (q := 331) hz hx hzn hzn2 hat hok jw_1614 rfl rfl (by omega) (by omega) rfl dL_build_328 rfl (fun n1 σ1 hm1 hat1 hg1 => ?_)
    have hfc1 : ln_fc x σ σ1 := fun a g1 g2 => (hg1 a g1 g2).trans (hfc0 a g1 g2)
    refine jk_pop (q := 332) dL_build_331 rfl rfl ?_
    have e9 : bz_2 ls c S = _ := if_pos ‹_›
    exact kk _ _ _ _ (by omega) (by rw [e9]; exact hat1) (by rw [e9]; exact pc_ok_do hok hB _ _ _ _ _) hfc1 (by omega) (by omega)
theorem bj_3 {G : jk_G} {n : Nat} {t : jk_T} {σ : jk_I} {ρ : jk_P} {x : Nat} {S : ps_S} {B : Int} {C E : Nat} {Q : jk_Q} {X : jk_X} (hz : zz_ok G) (hx : zx_ok G) (hzn : zn_ok G) (hzn2 : zn2_ok G) {z pts i c ls : Int} (hqf : True) (hpts : 4 ≤ pts ∧ pts ≤ 7) (hls : 1 ≤ ls ∧ ls ≤ 16) (hi : 1 ≤ i ∧ i ≤ 12) (hat : pc_at x S t σ ρ) (hok : pc_ok B S) (hB : B + 85 ≤ 1100000) (kk : ∀ n' σ' rc rs, n ≤ n' → pc_at x (bz_3 ls c S) t σ' ρ → pc_ok (B + 85) (bz_3 ls c S) → ln_fc x σ σ' → C ≤ rc → E ≤ rs → jk_J G mL_build 363 [some (.ref 63), some (.ref x), some (jI z), some (jI pts), some (jI i), some (jI c), some (jI (bz_one pts c)), some (jI (bz_oth pts c)), some (jI (bz_rise pts c)), some (jI ls)] [] n' t σ' ρ rc rs Q X) : ∀ rc rs, C + 20 ≤ rc → E + 120 ≤ rs → jk_J G mL_build 332 [some (.ref 63), some (.ref x), some (jI z), some (jI pts), some (jI i), some (jI c), some (jI (bz_one pts c)), some (jI (bz_oth pts c)), some (jI (bz_rise pts c)), some (jI ls)] [] n t σ ρ rc rs Q X := by
  intro rc rs hrc hrs
  have hfc0 : ln_fc x σ σ := fun _ _ _ => rfl
  have i1 := hok.1.1.1.2.1
  refine jk_iload (q := 334) dL_build_332 rfl rfl ?_
  refine jk_bipush (q := 336) (y := 14) dL_build_334 rfl (by decide) ?_
  refine jk_ishrZ (q := 337) dL_build_336 rfl ?_
  refine jk_bipush (q := 339) (y := 7) dL_build_337 rfl (by decide) ?_
  refine jk_iandZ (q := 340) dL_build_339 rfl ?_
  refine jk_iconst (q := 341) dL_build_340 rfl ?_
  refine jk_icmp_ne (q := 363) (q2 := 344) dL_build_341 rfl rfl (by first | assumption | decide | omega | exact jk_and_in _ _ | exact fA_in hqf _ | exact ⟨by omega, by omega⟩) (by first | assumption | decide | omega | exact jk_and_in _ _ | exact fA_in hqf _ | exact ⟨by omega, by omega⟩) (fun z1 => ?_) (fun z1 => ?_)
  · have e9 : bz_3 ls c S = S := if_neg ‹_›
    exact kk _ _ _ _ (by omega) (by rw [e9]; exact hat) (by rw [e9]; exact pc_ok_up hok (by omega) hB) hfc0 (by omega) (by omega)
  · refine jk_aload_n (q := 345) dL_build_344 rfl rfl ?_
    refine jk_iconst (q := 346) dL_build_345 rfl ?_
    refine jk_iload (q := 348) dL_build_346 rfl rfl ?_
    refine jk_bipush (q := 350) (y := 17) dL_build_348 rfl (by decide) ?_
    refine jk_ishrZ (q := 351) dL_build_350 rfl ?_
    refine jk_bipush (q := 353) (y := 15) dL_build_351 rfl (by decide) ?_
    refine jk_iandZ (q := 354) dL_build_353 rfl ?_
    refine jk_iload (q := 356) dL_build_354 rfl rfl ?_
    refine jk_iremZ (q := 357) dL_build_356 rfl (jk_and_in _ _) (by first | assumption | decide | omega | exact jk_and_in _ _ | exact fA_in hqf _ | exact ⟨by omega, by omega⟩) (by first | assumption | decide | omega | exact jk_and_in _ _ | exact fA_in hqf _ | exact ⟨by omega, by omega⟩) ?_
    refine jk_iconst (q := 358) dL_build_357 rfl ?_
    refine jk_iconst (q := 359) dL_build_358 rfl ?_
    refine jc_act_5 (q := 362) hz hx hzn hzn2 hat hok jw_1614 rfl rfl (by omega) (by omega) rfl dL_build_359 rfl (fun n1 σ1 hm1 hat1 hg1 => ?_)
    have hfc1 : ln_fc x σ σ1 := fun a g1 g2 => (hg1 a g1 g2).trans (hfc0 a g1 g2)
    refine jk_pop (q := 363) dL_build_362 rfl rfl ?_
    have e9 : bz_3 ls c S = _ := if_pos ‹_›
    exact kk _ _ _ _ (by omega) (by rw [e9]; exact hat1) (by rw [e9]; exact pc_ok_do hok hB _ _ _ _ _) hfc1 (by omega) (by omega)
theorem bj_4 {G : jk_G} {n : Nat} {t : jk_T} {σ : jk_I} {ρ : jk_P} {x : Nat} {S : ps_S} {B : Int} {C E : Nat} {Q : jk_Q} {X : jk_X} (hz : zz_ok G) (hx : zx_ok G) (hzn : zn_ok G) (hzn2 : zn2_ok G) {z pts i c ls : Int} (hqf : True) (hpts : 4 ≤ pts ∧ pts ≤ 7) (hls : 1 ≤ ls ∧ ls ≤ 16) (hi : 1 ≤ i ∧ i ≤ 12) (hat : pc_at x S t σ ρ) (hok : pc_ok B S) (hB : B + 85 ≤ 1100000) (kk : ∀ n' σ' rc rs, n ≤ n' → pc_at x (bz_4 c S) t σ' ρ → pc_ok (B + 85) (bz_4 c S) → ln_fc x σ σ' → C ≤ rc → E ≤ rs → jk_J G mL_build 407 [some (.ref 63), some (.ref x), some (jI z), some (jI pts), some (jI i), some (jI c), some (jI (bz_one pts c)), some (jI (bz_oth pts c)), some (jI (bz_rise pts c)), some (jI ls)] [] n' t σ' ρ rc rs Q X) : ∀ rc rs, C + 20 ≤ rc → E + 120 ≤ rs → jk_J G mL_build 363 [some (.ref 63), some (.ref x), some (jI z), some (jI pts), some (jI i), some (jI c), some (jI (bz_one pts c)), some (jI (bz_oth pts c)), some (jI (bz_rise pts c)), some (jI ls)] [] n t σ ρ rc rs Q X := by
  intro rc rs hrc hrs
  have hfc0 : ln_fc x σ σ := fun _ _ _ => rfl
  have i1 := hok.1.1.1.2.1
  have hlo := md_q_lo_in hok.1.1
  refine jk_iload (q := 365) dL_build_363 rfl rfl ?_
  refine jk_bipush (q := 367) (y := 14) dL_build_365 rfl (by decide) ?_
  refine jk_ishrZ (q := 368) dL_build_367 rfl ?_
  refine jk_iconst (q := 369) dL_build_368 rfl ?_
  refine jk_iandZ (q := 370) dL_build_369 rfl ?_
  refine jk_iconst (q := 371) dL_build_370 rfl ?_
  refine jk_icmp_ne (q := 407) (q2 := 374) dL_build_371 rfl rfl (by first | assumption | decide | omega | exact jk_and_in _ _ | exact fA_in hqf _ | exact ⟨by omega, by omega⟩) (by first | assumption | decide | omega | exact jk_and_in _ _ | exact fA_in hqf _ | exact ⟨by omega, by omega⟩) (fun z1 => ?_) (fun z1 => ?_)
  · have e9 : bz_4 c S = S := if_neg ‹_›
    exact kk _ _ _ _ (by omega) (by rw [e9]; exact hat) (by rw [e9]; exact pc_ok_up hok (by omega) hB) hfc0 (by omega) (by omega)
  · refine jk_aload_n (q := 375) dL_build_374 rfl rfl ?_
    refine jq_call (q := 378) (As := []) (c_X12_loopCount  hz hx hat.1 hat.2.1 hok.1.1 hat.2.2.1 hok.1.2 ) rfl jm_X12_loopCount jw_1017 rfl hat.1.1 rfl rfl rfl (by omega) (by omega) rfl dL_build_375 rfl (fun σ1 hg1 => ?_)
    have hat1 : pc_at x S t σ1 ρ := ⟨hat.1, ln_fr_rel (st_2 hok.1) hat.2.1 hg1, ln_fr_nn hat.2.2.1 hg1, hs_rel_fr hat.2.2.2 (fun j hj => st_2 (hok.2.2 j hj)) (fun a g1 g2 => hg1 a (Or.inl g2))⟩
    have hfc1 : ln_fc x σ σ1 := fun a g1 g2 => (pc_fc hg1 a g1 g2).trans (hfc0 a g1 g2)
    refine jk_if_le (q := 407) (q2 := 381) dL_build_378 rfl rfl (by first | assumption | decide | omega | exact jk_and_in _ _ | exact fA_in hqf _ | exact ⟨by omega, by omega⟩) (fun z2 => ?_) (fun z2 => ?_)
    · have e9 : bz_4 c S = S := (if_pos ‹jk_and (jk_sr c 14) 3 = 2›).trans (if_pos (by omega))
      exact kk _ _ _ _ (by omega) (by rw [e9]; exact hat1) (by rw [e9]; exact pc_ok_up hok (by omega) hB) hfc1 (by omega) (by omega)
    · refine jk_aload_n (q := 382) dL_build_381 rfl rfl ?_
      refine jk_bipush (q := 384) (y := 6) dL_build_382 rfl (by decide) ?_
      refine jk_aload_n (q := 385) dL_build_384 rfl rfl ?_
      refine jk_iload (q := 387) dL_build_385 rfl rfl ?_
      refine jk_bipush (q := 389) (y := 17) dL_build_387 rfl (by decide) ?_
      refine jk_ishrZ (q := 390) dL_build_389 rfl ?_
      refine jk_bipush (q := 392) (y := 7) dL_build_390 rfl (by decide) ?_
      refine jk_iandZ (q := 393) dL_build_392 rfl ?_
      refine jk_aload_n (q := 394) dL_build_393 rfl rfl ?_
      refine jq_call (q := 397) (As := []) (c_X12_loopCount  hz hx hat.1 hat1.2.1 hok.1.1 hat1.2.2.1 hok.1.2 ) rfl jm_X12_loopCount jw_1017 rfl hat.1.1 rfl rfl rfl (by omega) (by omega) rfl dL_build_394 rfl (fun σ2 hg2 => ?_)
      have hat2 : pc_at x S t σ2 ρ := ⟨hat1.1, ln_fr_rel (st_2 hok.1) hat1.2.1 hg2, ln_fr_nn hat1.2.2.1 hg2, hs_rel_fr hat1.2.2.2 (fun j hj => st_2 (hok.2.2 j hj)) (fun a g1 g2 => hg2 a (Or.inl g2))⟩
      have hfc2 : ln_fc x σ σ2 := fun a g1 g2 => (pc_fc hg2 a g1 g2).trans (hfc1 a g1 g2)
      refine jk_iremZ (q := 398) dL_build_397 rfl (jk_and_in _ _) (by first | assumption | decide | omega | exact jk_and_in _ _ | exact fA_in hqf _ | exact ⟨by omega, by omega⟩) (by first | assumption | decide | omega | exact jk_and_in _ _ | exact fA_in hqf _ | exact ⟨by omega, by omega⟩) ?_
      have hrm := jk_rm_bd (jk_and7 (jk_sr c 17)).1 (show 0 < (md_q_lo S.1).2 by omega)
      have hla : (md_q_la S.1 (jk_rm (jk_and (jk_sr c 17) 7) (md_q_lo S.1).2)).1 = 0 := by
            unfold md_q_la
            rw [if_neg (jk_fnd_cnt hrm.1 (F := fun l => md_clo S.1 (md_T S.1) l) (fun l => rfl) _ hrm.2)]
      refine jq_call (q := 401) (As := [jI (jk_rm (jk_and (jk_sr c 17) 7) (md_q_lo S.1).2)]) (c_X12_loopAt (p := jk_rm (jk_and (jk_sr c 17) 7) (md_q_lo S.1).2) hz hx hat.1 hat2.2.1 hok.1.1 hat2.2.2.1 hok.1.2 ⟨by omega, by omega⟩) hla jm_X12_loopAt jw_1026 rfl hat.1.1 rfl rfl rfl (by omega) (by omega) rfl dL_build_398 rfl (fun σ3 hg3 => ?_)
      have hat3 : pc_at x S t σ3 ρ := ⟨hat2.1, ln_fr_rel (st_2 hok.1) hat2.2.1 hg3, ln_fr_nn hat2.2.2.1 hg3, hs_rel_fr hat2.2.2.2 (fun j hj => st_2 (hok.2.2 j hj)) (fun a g1 g2 => hg3 a (Or.inl g2))⟩
      have hfc3 : ln_fc x σ σ3 := fun a g1 g2 => (pc_fc hg3 a g1 g2).trans (hfc2 a g1 g2)
      refine jk_iconst (q := 402) dL_build_401 rfl ?_
      refine jk_iconst (q := 403) dL_build_402 rfl ?_
      refine jc_act_6 (q := 406) hz hx hzn hzn2 hat3 hok jw_1614 rfl rfl (by omega) (by omega) rfl dL_build_403 rfl (fun n4 σ4 hm4 hat4 hg4 => ?_)
      have hfc4 : ln_fc x σ σ4 := fun a g1 g2 => (hg4 a g1 g2).trans (hfc3 a g1 g2)
      refine jk_pop (q := 407) dL_build_406 rfl rfl ?_
      have e9 : bz_4 c S = _ := (if_pos ‹jk_and (jk_sr c 14) 3 = 2›).trans (if_neg (by omega))
      exact kk _ _ _ _ (by omega) (by rw [e9]; exact hat4) (by rw [e9]; exact pc_ok_do hok hB _ _ _ _ _) hfc4 (by omega) (by omega)
theorem bj_5 {G : jk_G} {n : Nat} {t : jk_T} {σ : jk_I} {ρ : jk_P} {x : Nat} {S : ps_S} {B : Int} {C E : Nat} {Q : jk_Q} {X : jk_X} (hz : zz_ok G) (hx : zx_ok G) (hzn : zn_ok G) (hzn2 : zn2_ok G) {z pts i c ls : Int} (hqf : True) (hpts : 4 ≤ pts ∧ pts ≤ 7) (hls : 1 ≤ ls ∧ ls ≤ 16) (hi : 1 ≤ i ∧ i ≤ 12) (hat : pc_at x S t σ ρ) (hok : pc_ok B S) (hB : B + 85 ≤ 1100000) (kk : ∀ n' σ' rc rs, n ≤ n' → pc_at x (bz_5 c S) t σ' ρ → pc_ok (B + 85) (bz_5 c S) → ln_fc x σ σ' → C ≤ rc → E ≤ rs → jk_J G mL_build 438 [some (.ref 63), some (.ref x), some (jI z), some (jI pts), some (jI i), some (jI c), some (jI (bz_one pts c)), some (jI (bz_oth pts c)), some (jI (bz_rise pts c)), some (jI ls)] [] n' t σ' ρ rc rs Q X) : ∀ rc rs, C + 20 ≤ rc → E + 120 ≤ rs → jk_J G mL_build 407 [some (.ref 63), some (.ref x), some (jI z), some (jI pts), some (jI i), some (jI c), some (jI (bz_one pts c)), some (jI (bz_oth pts c)), some (jI (bz_rise pts c)), some (jI ls)] [] n t σ ρ rc rs Q X := by
  intro rc rs hrc hrs
  have hfc0 : ln_fc x σ σ := fun _ _ _ => rfl
  have i1 := hok.1.1.1.2.1
  refine jk_iload (q := 409) dL_build_407 rfl rfl ?_
  refine jk_bipush (q := 411) (y := 21) dL_build_409 rfl (by decide) ?_
  refine jk_ishrZ (q := 412) dL_build_411 rfl ?_
  refine jk_bipush (q := 414) (y := 7) dL_build_412 rfl (by decide) ?_
  refine jk_iandZ (q := 415) dL_build_414 rfl ?_
  refine jk_if_ne (q := 438) (q2 := 418) dL_build_415 rfl rfl (by first | assumption | decide | omega | exact jk_and_in _ _ | exact fA_in hqf _ | exact ⟨by omega, by omega⟩) (fun z1 => ?_) (fun z1 => ?_)
  · have e9 : bz_5 c S = S := if_neg ‹_›
    exact kk _ _ _ _ (by omega) (by rw [e9]; exact hat) (by rw [e9]; exact pc_ok_up hok (by omega) hB) hfc0 (by omega) (by omega)
  · refine jk_aload_n (q := 419) dL_build_418 rfl rfl ?_
    refine jk_bipush (q := 421) (y := 9) dL_build_419 rfl (by decide) ?_
    refine jk_iload (q := 423) dL_build_421 rfl rfl ?_
    refine jk_bipush (q := 425) (y := 24) dL_build_423 rfl (by decide) ?_
    refine jk_ishrZ (q := 426) dL_build_425 rfl ?_
    refine jk_bipush (q := 428) (y := 127) dL_build_426 rfl (by decide) ?_
    refine jk_iandZ (q := 429) dL_build_428 rfl ?_
    refine jk_bipush (q := 431) (y := 40) dL_build_429 rfl (by decide) ?_
    refine jk_isub (q := 432) dL_build_431 rfl ?_
    refine jk_iconst (q := 433) dL_build_432 rfl ?_
    refine jk_iconst (q := 434) dL_build_433 rfl ?_
    refine jc_act_9 (q := 437) hz hx hzn hzn2 hat hok jw_1614 rfl rfl (by omega) (by omega) rfl dL_build_434 rfl (fun n1 σ1 hm1 hat1 hg1 => ?_)
    have hfc1 : ln_fc x σ σ1 := fun a g1 g2 => (hg1 a g1 g2).trans (hfc0 a g1 g2)
    refine jk_pop (q := 438) dL_build_437 rfl rfl ?_
    have e9 : bz_5 c S = _ := if_pos ‹_›
    exact kk _ _ _ _ (by omega) (by rw [e9]; exact hat1) (by rw [e9]; exact pc_ok_do hok hB _ _ _ _ _) hfc1 (by omega) (by omega)
theorem bj_6 {G : jk_G} {n : Nat} {t : jk_T} {σ : jk_I} {ρ : jk_P} {x : Nat} {S : ps_S} {B : Int} {C E : Nat} {Q : jk_Q} {X : jk_X} (hz : zz_ok G) (hx : zx_ok G) (hzn : zn_ok G) (hzn2 : zn2_ok G) {z pts i c ls : Int} (hqf : True) (hpts : 4 ≤ pts ∧ pts ≤ 7) (hls : 1 ≤ ls ∧ ls ≤ 16) (hi : 1 ≤ i ∧ i ≤ 12) (hat : pc_at x S t σ ρ) (hok : pc_ok B S) (hB : B + 85 ≤ 1100000) (kk : ∀ n' σ' rc rs, n ≤ n' → pc_at x (bz_6 pts c S) t σ' ρ → pc_ok (B + 85) (bz_6 pts c S) → ln_fc x σ σ' → C ≤ rc → E ≤ rs → jk_J G mL_build 469 [some (.ref 63), some (.ref x), some (jI z), some (jI pts), some (jI i), some (jI c), some (jI (bz_one pts c)), some (jI (bz_oth pts c)), some (jI (bz_rise pts c)), some (jI ls)] [] n' t σ' ρ rc rs Q X) : ∀ rc rs, C + 20 ≤ rc → E + 120 ≤ rs → jk_J G mL_build 438 [some (.ref 63), some (.ref x), some (jI z), some (jI pts), some (jI i), some (jI c), some (jI (bz_one pts c)), some (jI (bz_oth pts c)), some (jI (bz_rise pts c)), some (jI ls)] [] n t σ ρ rc rs Q X := by
  intro rc rs hrc hrs
  have hfc0 : ln_fc x σ σ := fun _ _ _ => rfl
  have i1 := hok.1.1.1.2.1
  refine jk_iload (q := 440) dL_build_438 rfl rfl ?_
  refine jk_bipush (q := 442) (y := 21) dL_build_440 rfl (by decide) ?_
  refine jk_ishrZ (q := 443) dL_build_442 rfl ?_
  refine jk_bipush (q := 445) (y := 7) dL_build_443 rfl (by decide) ?_
  refine jk_iandZ (q := 446) dL_build_445 rfl ?_
  refine jk_iconst (q := 447) dL_build_446 rfl ?_
  refine jk_icmp_ne (q := 469) (q2 := 450) dL_build_447 rfl rfl (by first | assumption | decide | omega | exact jk_and_in _ _ | exact fA_in hqf _ | exact ⟨by omega, by omega⟩) (by first | assumption | decide | omega | exact jk_and_in _ _ | exact fA_in hqf _ | exact ⟨by omega, by omega⟩) (fun z1 => ?_) (fun z1 => ?_)
  · have e9 : bz_6 pts c S = S := if_neg ‹_›
    exact kk _ _ _ _ (by omega) (by rw [e9]; exact hat) (by rw [e9]; exact pc_ok_up hok (by omega) hB) hfc0 (by omega) (by omega)
  · refine jk_aload_n (q := 451) dL_build_450 rfl rfl ?_
    refine jk_bipush (q := 453) (y := 7) dL_build_451 rfl (by decide) ?_
    refine jk_iload (q := 455) dL_build_453 rfl rfl ?_
    refine jk_bipush (q := 457) (y := 24) dL_build_455 rfl (by decide) ?_
    refine jk_ishrZ (q := 458) dL_build_457 rfl ?_
    refine jk_bipush (q := 460) (y := 7) dL_build_458 rfl (by decide) ?_
    refine jk_iandZ (q := 461) dL_build_460 rfl ?_
    refine jk_iload_n (q := 462) dL_build_461 rfl rfl ?_
    refine jk_iremZ (q := 463) dL_build_462 rfl (jk_and_in _ _) (by first | assumption | decide | omega | exact jk_and_in _ _ | exact fA_in hqf _ | exact ⟨by omega, by omega⟩) (by first | assumption | decide | omega | exact jk_and_in _ _ | exact fA_in hqf _ | exact ⟨by omega, by omega⟩) ?_
    refine jk_iconst (q := 464) dL_build_463 rfl ?_
    refine jk_iconst (q := 465) dL_build_464 rfl ?_
    refine jc_act_7 (q := 468) hz hx hzn hzn2 hat hok jw_1614 rfl rfl (by omega) (by omega) rfl dL_build_465 rfl (fun n1 σ1 hm1 hat1 hg1 => ?_)
    have hfc1 : ln_fc x σ σ1 := fun a g1 g2 => (hg1 a g1 g2).trans (hfc0 a g1 g2)
    refine jk_pop (q := 469) dL_build_468 rfl rfl ?_
    have e9 : bz_6 pts c S = _ := if_pos ‹_›
    exact kk _ _ _ _ (by omega) (by rw [e9]; exact hat1) (by rw [e9]; exact pc_ok_do hok hB _ _ _ _ _) hfc1 (by omega) (by omega)
theorem bj_7 {G : jk_G} {n : Nat} {t : jk_T} {σ : jk_I} {ρ : jk_P} {x : Nat} {S : ps_S} {B : Int} {C E : Nat} {Q : jk_Q} {X : jk_X} (hz : zz_ok G) (hx : zx_ok G) (hzn : zn_ok G) (hzn2 : zn2_ok G) {z pts i c ls : Int} (hqf : True) (hpts : 4 ≤ pts ∧ pts ≤ 7) (hls : 1 ≤ ls ∧ ls ≤ 16) (hi : 1 ≤ i ∧ i ≤ 12) (hat : pc_at x S t σ ρ) (hok : pc_ok B S) (hB : B + 85 ≤ 1100000) (kk : ∀ n' σ' rc rs, n ≤ n' → pc_at x (bz_7 c S) t σ' ρ → pc_ok (B + 85) (bz_7 c S) → ln_fc x σ σ' → C ≤ rc → E ≤ rs → jk_J G mL_build 516 [some (.ref 63), some (.ref x), some (jI z), some (jI pts), some (jI i), some (jI c), some (jI (bz_one pts c)), some (jI (bz_oth pts c)), some (jI (bz_rise pts c)), some (jI ls)] [] n' t σ' ρ rc rs Q X) : ∀ rc rs, C + 20 ≤ rc → E + 120 ≤ rs → jk_J G mL_build 469 [some (.ref 63), some (.ref x), some (jI z), some (jI pts), some (jI i), some (jI c), some (jI (bz_one pts c)), some (jI (bz_oth pts c)), some (jI (bz_rise pts c)), some (jI ls)] [] n t σ ρ rc rs Q X := by
  intro rc rs hrc hrs
  have hfc0 : ln_fc x σ σ := fun _ _ _ => rfl
  have i1 := hok.1.1.1.2.1
  refine jk_iload (q := 471) dL_build_469 rfl rfl ?_
  refine jk_bipush (q := 473) (y := 21) dL_build_471 rfl (by decide) ?_
  refine jk_ishrZ (q := 474) dL_build_473 rfl ?_
  refine jk_iconst (q := 475) dL_build_474 rfl ?_
  refine jk_iandZ (q := 476) dL_build_475 rfl ?_
  refine jk_iconst (q := 477) dL_build_476 rfl ?_
  refine jk_icmp_ne (q := 516) (q2 := 480) dL_build_477 rfl rfl (by first | assumption | decide | omega | exact jk_and_in _ _ | exact fA_in hqf _ | exact ⟨by omega, by omega⟩) (by first | assumption | decide | omega | exact jk_and_in _ _ | exact fA_in hqf _ | exact ⟨by omega, by omega⟩) (fun z1 => ?_) (fun z1 => ?_)
  · have e9 : bz_7 c S = S := if_neg ‹_›
    exact kk _ _ _ _ (by omega) (by rw [e9]; exact hat) (by rw [e9]; exact pc_ok_up hok (by omega) hB) hfc0 (by omega) (by omega)
  · refine jk_aload_n (q := 481) dL_build_480 rfl rfl ?_
    refine jk_bipush (q := 483) (y := 8) dL_build_481 rfl (by decide) ?_
    refine jk_iload (q := 485) dL_build_483 rfl rfl ?_
    refine jk_bipush (q := 487) (y := 24) dL_build_485 rfl (by decide) ?_
    refine jk_ishrZ (q := 488) dL_build_487 rfl ?_
    refine jk_iconst (q := 489) dL_build_488 rfl ?_
    refine jk_iandZ (q := 490) dL_build_489 rfl ?_
    refine jk_bipush (q := 492) (y := 30) dL_build_490 rfl (by decide) ?_
    refine jk_iload (q := 494) dL_build_492 rfl rfl ?_
    refine jk_bipush (q := 496) (y := 26) dL_build_494 rfl (by decide) ?_
    refine jk_ishrZ (q := 497) dL_build_496 rfl ?_
    refine jk_bipush (q := 499) (y := 63) dL_build_497 rfl (by decide) ?_
    refine jk_iandZ (q := 500) dL_build_499 rfl ?_
    refine jk_iadd (q := 501) dL_build_500 rfl ?_
    refine jk_iload (q := 503) dL_build_501 rfl rfl ?_
    refine jk_bipush (q := 505) (y := 8) dL_build_503 rfl (by decide) ?_
    refine jk_ishrZ (q := 506) dL_build_505 rfl ?_
    refine jk_bipush (q := 508) (y := 127) dL_build_506 rfl (by decide) ?_
    refine jk_iandZ (q := 509) dL_build_508 rfl ?_
    refine jk_bipush (q := 511) (y := 64) dL_build_509 rfl (by decide) ?_
    refine jk_isub (q := 512) dL_build_511 rfl ?_
    refine jc_act_8 (q := 515) hz hx hzn hzn2 hat hok jw_1614 rfl rfl (by omega) (by omega) rfl dL_build_512 rfl (fun n1 σ1 hm1 hat1 hg1 => ?_)
    have hfc1 : ln_fc x σ σ1 := fun a g1 g2 => (hg1 a g1 g2).trans (hfc0 a g1 g2)
    refine jk_pop (q := 516) dL_build_515 rfl rfl ?_
    have e9 : bz_7 c S = _ := if_pos ‹_›
    exact kk _ _ _ _ (by omega) (by rw [e9]; exact hat1) (by rw [e9]; exact pc_ok_do hok hB _ _ _ _ _) hfc1 (by omega) (by omega)
theorem bj_8 {G : jk_G} {n : Nat} {t : jk_T} {σ : jk_I} {ρ : jk_P} {x : Nat} {S : ps_S} {B : Int} {C E : Nat} {Q : jk_Q} {X : jk_X} (hz : zz_ok G) (hx : zx_ok G) (hzn : zn_ok G) (hzn2 : zn2_ok G) {z pts i c ls : Int} (hqf : True) (hpts : 4 ≤ pts ∧ pts ≤ 7) (hls : 1 ≤ ls ∧ ls ≤ 16) (hi : 1 ≤ i ∧ i ≤ 12) (hat : pc_at x S t σ ρ) (hok : pc_ok B S) (hB : B + 85 ≤ 1100000) (kk : ∀ n' σ' rc rs, n ≤ n' → pc_at x (bz_8 pts c S) t σ' ρ → pc_ok (B + 85) (bz_8 pts c S) → ln_fc x σ σ' → C ≤ rc → E ≤ rs → jk_J G mL_build 556 [some (.ref 63), some (.ref x), some (jI z), some (jI pts), some (jI i), some (jI c), some (jI (bz_one pts c)), some (jI (bz_oth pts c)), some (jI (bz_rise pts c)), some (jI ls)] [] n' t σ' ρ rc rs Q X) : ∀ rc rs, C + 20 ≤ rc → E + 120 ≤ rs → jk_J G mL_build 516 [some (.ref 63), some (.ref x), some (jI z), some (jI pts), some (jI i), some (jI c), some (jI (bz_one pts c)), some (jI (bz_oth pts c)), some (jI (bz_rise pts c)), some (jI ls)] [] n t σ ρ rc rs Q X := by
  intro rc rs hrc hrs
  have hfc0 : ln_fc x σ σ := fun _ _ _ => rfl
  have i1 := hok.1.1.1.2.1
  refine jk_iload (q := 518) dL_build_516 rfl rfl ?_
  refine jk_bipush (q := 520) (y := 21) dL_build_518 rfl (by decide) ?_
  refine jk_ishrZ (q := 521) dL_build_520 rfl ?_
  refine jk_bipush (q := 523) (y := 7) dL_build_521 rfl (by decide) ?_
  refine jk_iandZ (q := 524) dL_build_523 rfl ?_
  refine jk_iconst (q := 525) dL_build_524 rfl ?_
  refine jk_icmp_ne (q := 556) (q2 := 528) dL_build_525 rfl rfl (by first | assumption | decide | omega | exact jk_and_in _ _ | exact fA_in hqf _ | exact ⟨by omega, by omega⟩) (by first | assumption | decide | omega | exact jk_and_in _ _ | exact fA_in hqf _ | exact ⟨by omega, by omega⟩) (fun z1 => ?_) (fun z1 => ?_)
  · have e9 : bz_8 pts c S = S := if_neg ‹_›
    exact kk _ _ _ _ (by omega) (by rw [e9]; exact hat) (by rw [e9]; exact pc_ok_up hok (by omega) hB) hfc0 (by omega) (by omega)
  · refine jk_aload_n (q := 529) dL_build_528 rfl rfl ?_
    refine jk_iconst (q := 530) dL_build_529 rfl ?_
    refine jk_iload (q := 532) dL_build_530 rfl rfl ?_
    refine jk_bipush (q := 534) (y := 24) dL_build_532 rfl (by decide) ?_
    refine jk_ishrZ (q := 535) dL_build_534 rfl ?_
    refine jk_bipush (q := 537) (y := 7) dL_build_535 rfl (by decide) ?_
    refine jk_iandZ (q := 538) dL_build_537 rfl ?_
    refine jk_iload_n (q := 539) dL_build_538 rfl rfl ?_
    refine jk_iremZ (q := 540) dL_build_539 rfl (jk_and_in _ _) (by first | assumption | decide | omega | exact jk_and_in _ _ | exact fA_in hqf _ | exact ⟨by omega, by omega⟩) (by first | assumption | decide | omega | exact jk_and_in _ _ | exact fA_in hqf _ | exact ⟨by omega, by omega⟩) ?_
    refine jk_iload (q := 542) dL_build_540 rfl rfl ?_
    refine jk_iconst (q := 543) dL_build_542 rfl ?_
    refine jk_ishrZ (q := 544) dL_build_543 rfl ?_
    refine jk_sipush (q := 547) (y := 255) dL_build_544 rfl (by decide) ?_
    refine jk_iandZ (q := 548) dL_build_547 rfl ?_
    refine jk_bipush (q := 550) (y := 100) dL_build_548 rfl (by decide) ?_
    refine jk_isub (q := 551) dL_build_550 rfl ?_
    refine jk_iconst (q := 552) dL_build_551 rfl ?_
    refine jc_act_1 (q := 555) hz hx hzn hzn2 hat hok jw_1614 rfl rfl (by omega) (by omega) rfl dL_build_552 rfl (fun n1 σ1 hm1 hat1 hg1 => ?_)
    have hfc1 : ln_fc x σ σ1 := fun a g1 g2 => (hg1 a g1 g2).trans (hfc0 a g1 g2)
    refine jk_pop (q := 556) dL_build_555 rfl rfl ?_
    have e9 : bz_8 pts c S = _ := if_pos ‹_›
    exact kk _ _ _ _ (by omega) (by rw [e9]; exact hat1) (by rw [e9]; exact pc_ok_do hok hB _ _ _ _ _) hfc1 (by omega) (by omega)
theorem bj_9 {G : jk_G} {n : Nat} {t : jk_T} {σ : jk_I} {ρ : jk_P} {x : Nat} {S : ps_S} {B : Int} {C E : Nat} {Q : jk_Q} {X : jk_X} (hz : zz_ok G) (hx : zx_ok G) (hzn : zn_ok G) (hzn2 : zn2_ok G) {z pts i c ls : Int} (hqf : True) (hpts : 4 ≤ pts ∧ pts ≤ 7) (hls : 1 ≤ ls ∧ ls ≤ 16) (hi : 1 ≤ i ∧ i ≤ 12) (hat : pc_at x S t σ ρ) (hok : pc_ok B S) (hB : B + 85 ≤ 1100000) (kk : ∀ n' σ' rc rs, n ≤ n' → pc_at x (bz_9 pts c S) t σ' ρ → pc_ok (B + 85) (bz_9 pts c S) → ln_fc x σ σ' → C ≤ rc → E ≤ rs → jk_J G mL_build 587 [some (.ref 63), some (.ref x), some (jI z), some (jI pts), some (jI i), some (jI c), some (jI (bz_one pts c)), some (jI (bz_oth pts c)), some (jI (bz_rise pts c)), some (jI ls)] [] n' t σ' ρ rc rs Q X) : ∀ rc rs, C + 20 ≤ rc → E + 120 ≤ rs → jk_J G mL_build 556 [some (.ref 63), some (.ref x), some (jI z), some (jI pts), some (jI i), some (jI c), some (jI (bz_one pts c)), some (jI (bz_oth pts c)), some (jI (bz_rise pts c)), some (jI ls)] [] n t σ ρ rc rs Q X := by
  intro rc rs hrc hrs
  have hfc0 : ln_fc x σ σ := fun _ _ _ => rfl
  have i1 := hok.1.1.1.2.1
  refine jk_iload (q := 558) dL_build_556 rfl rfl ?_
  refine jk_bipush (q := 560) (y := 21) dL_build_558 rfl (by decide) ?_
  refine jk_ishrZ (q := 561) dL_build_560 rfl ?_
  refine jk_bipush (q := 563) (y := 7) dL_build_561 rfl (by decide) ?_
  refine jk_iandZ (q := 564) dL_build_563 rfl ?_
  refine jk_bipush (q := 566) (y := 7) dL_build_564 rfl (by decide) ?_
  refine jk_icmp_ne (q := 587) (q2 := 569) dL_build_566 rfl rfl (by first | assumption | decide | omega | exact jk_and_in _ _ | exact fA_in hqf _ | exact ⟨by omega, by omega⟩) (by first | assumption | decide | omega | exact jk_and_in _ _ | exact fA_in hqf _ | exact ⟨by omega, by omega⟩) (fun z1 => ?_) (fun z1 => ?_)
  · have e9 : bz_9 pts c S = S := if_neg ‹_›
    exact kk _ _ _ _ (by omega) (by rw [e9]; exact hat) (by rw [e9]; exact pc_ok_up hok (by omega) hB) hfc0 (by omega) (by omega)
  · refine jk_aload_n (q := 570) dL_build_569 rfl rfl ?_
    refine jk_iconst (q := 571) dL_build_570 rfl ?_
    refine jk_iload (q := 573) dL_build_571 rfl rfl ?_
    refine jk_bipush (q := 575) (y := 24) dL_build_573 rfl (by decide) ?_
    refine jk_ishrZ (q := 576) dL_build_575 rfl ?_
    refine jk_bipush (q := 578) (y := 7) dL_build_576 rfl (by decide) ?_
    refine jk_iandZ (q := 579) dL_build_578 rfl ?_
    refine jk_iload_n (q := 580) dL_build_579 rfl rfl ?_
    refine jk_iremZ (q := 581) dL_build_580 rfl (jk_and_in _ _) (by first | assumption | decide | omega | exact jk_and_in _ _ | exact fA_in hqf _ | exact ⟨by omega, by omega⟩) (by first | assumption | decide | omega | exact jk_and_in _ _ | exact fA_in hqf _ | exact ⟨by omega, by omega⟩) ?_
    refine jk_iconst (q := 582) dL_build_581 rfl ?_
    refine jk_iconst (q := 583) dL_build_582 rfl ?_
    refine jc_act_2 (q := 586) hz hx hzn hzn2 hat hok jw_1614 rfl rfl (by omega) (by omega) rfl dL_build_583 rfl (fun n1 σ1 hm1 hat1 hg1 => ?_)
    have hfc1 : ln_fc x σ σ1 := fun a g1 g2 => (hg1 a g1 g2).trans (hfc0 a g1 g2)
    refine jk_pop (q := 587) dL_build_586 rfl rfl ?_
    have e9 : bz_9 pts c S = _ := if_pos ‹_›
    exact kk _ _ _ _ (by omega) (by rw [e9]; exact hat1) (by rw [e9]; exact pc_ok_do hok hB _ _ _ _ _) hfc1 (by omega) (by omega)
end PH
