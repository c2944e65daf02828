section L2
section JL2
variable {G : jk_G} {M : jk_M} {pc q : Nat} {ls : List (Option Value)} {st : List Value} {n : Nat} {t : jk_T} {σ : jk_I} {ρ : jk_P} {rc rs : Nat} {Q : jk_Q} {X : jk_X}
theorem jk_tabs {a N : Nat} {f : Nat → Int} {x : Int} (hT : ∀ s, jk_Z G s → va_T .int (jk_ad G a) N (fun j => jI (f j)) (jk_A G) s s.heap) (hN : N ≤ 3000) (hx : 0 ≤ x ∧ x < (N : Int)) (hd : decode (jk_cc M) pc = .ok (.iaload, 1)) (hp : pc + 1 = q) (kk : jk_J G M q ls (jI (f x.toNat) :: st) n t σ ρ rc rs Q X) : jk_J G M pc ls (jI x :: .ref a :: st) n t σ ρ rc rs Q X := by
  subst hp
  intro p e R s m args below meth c H locs cells slots ls' C hl hR hS hc hs
  obtain ⟨i1, i2, i3, i4⟩ := jk_ix hx.1 hx.2 (by omega)
  exact va_ti C.1 C.2.1 (hT s C.2.2.2.2.2.2.2.2.2.2.2.2.1) hS i1 (v := jI (f x.toNat)) (by rw [i2]) hd (kk p e R s m args below meth c H locs cells slots ls' C hl hR hS hc hs)
theorem jk_iand63 {x : Int} (hd : decode (jk_cc M) pc = .ok (.iand, 1)) (hp : pc + 1 = q) (k : ∀ y, 0 ≤ y ∧ y < 64 → jk_J G M q ls (jI y :: st) n t σ ρ rc rs Q X) : jk_J G M pc ls (jI 63 :: jI x :: st) n t σ ρ rc rs Q X := by
  subst hp
  obtain ⟨j, hj, ej⟩ := pk_andE (Int32.ofInt x) (m := Int32.ofInt 63) 6 (by decide)
  have e2 : nI j = Int32.ofInt (j : Int) := (Int32.ofInt_eq_ofNat (n := j)).symm
  exact jk_pure (fun p e R s m args below meth c H locs cells slots ls' Qf hx hb kk => lv_iand hx hb hd (by rw [ej, e2]; exact kk)) (k (j : Int) ⟨by omega, by have : j < 64 := hj; omega⟩)
theorem jk_lcmp0 {x y : Int} (h : x = y) (hd : decode (jk_cc M) pc = .ok (.lcmp, 1)) (hp : pc + 1 = q) (k : jk_J G M q ls (jI 0 :: st) n t σ ρ rc rs Q X) : jk_J G M pc ls (jL y :: jL x :: st) n t σ ρ rc rs Q X := by
  subst hp h
  exact jk_pure (fun p e R s m args below meth c H locs cells slots ls' Qf hx hb kk => W.lcmp hx hb hd (by rw [show lg_cmp (Int64.ofInt x) (Int64.ofInt x) = Int32.ofInt 0 by simp [lg_cmp]]; exact kk)) k
def jk_ch (x : Int) : Int := (((Int32.ofInt x).toBitVec.toNat % 65536 : Nat) : Int)
theorem jk_ch_bd (x : Int) : 0 ≤ jk_ch x ∧ jk_ch x < 65536 := by unfold jk_ch; omega
theorem jk_i2cw {x : Int} (hd : decode (jk_cc M) pc = .ok (.i2c, 1)) (hp : pc + 1 = q) (k : jk_J G M q ls (jI (jk_ch x) :: st) n t σ ρ rc rs Q X) : jk_J G M pc ls (jI x :: st) n t σ ρ rc rs Q X := by
  subst hp
  exact jk_pure (fun p e R s m args below meth c H locs cells slots ls' Qf hx hb kk => lv_i2c hx hb hd ((pk_char _).trans (Int32.ofInt_eq_ofNat (n := (Int32.ofInt x).toBitVec.toNat % 65536)).symm) kk) k
end JL2
abbrev mL_law : jk_M := ("LevelingNetworkLaw", code, 9, (some FieldType.boolean), [], false, 40)
/-- the script, as the launch has laid it -/
def zq_ok (G : jk_G) (L : Nat) (f : Nat → Int) : Prop := (L ≤ 2560 ∧ ∀ j, jk_in (f j)) ∧ ∀ s, jk_Z G s → va_T .int (jk_ad G 63) L (fun j => jI (f j)) (jk_A G) s s.heap
/-- all that the launch has laid -/
def zl_ok (G : jk_G) (L : Nat) (f : Nat → Int) : Prop := zz_ok G ∧ zx_ok G ∧ zv_ok G ∧ zp_ok G ∧ zn_ok G ∧ zq_ok G L f
/-! THE RELATION of class and model -/
def lh_H (h : Int → Int) (j : Nat) : Int → Int := fun p => if 0 ≤ p ∧ p < 240 then h (240 * (j : Int) + p) else 0
def st_ok (B : Int) (g : Int → Int) : Prop := md_all B g ∧ md_sit g
theorem st_ok_up {B B2 : Int} {g : Int → Int} (h : st_ok B g) (h2 : B ≤ B2) (h3 : B2 ≤ 1100000) : st_ok B2 g := ⟨md_all_up h.1 h2 h3, h.2⟩
/-- the model's rows -/
def lm_is (t : jk_T) (ρ : jk_P) (σ : jk_I) (m : Nat) (O g b h sv Bf L P : Int → Int) : Prop := md_at t ρ m ∧ (σ m = O ∧ σ (m + 2) = g ∧ σ (m + 4) = b ∧ σ (m + 6) = h ∧ σ (m + 8) = sv ∧ σ (m + 10) = Bf ∧ σ (m + 12) = L ∧ σ (m + 28) = P) ∧ md_z σ m ∧ md_z10 σ m
/-- the class's -/
def lx_is (t : jk_T) (ρ : jk_P) (σ : jk_I) (x v K : Nat) (O g h sv Bf : Int → Int) (Lo : List Int) : Prop := ln_at t ρ x ∧ cl_rel σ (x + 2) g ∧ (cl_nn σ (x + 2) ∧ cl_nn σ (x + 48) ∧ cl_nn σ (x + 94)) ∧ hs_rel σ (x + 140) (O 3).toNat (lh_H h) ∧ bd_is t ρ σ (x + 578) v K Lo ∧ (σ x 3 = O 5 ∧ σ x 13 = O 8 ∧ σ x 14 = O 9 ∧ σ (x + 550) 1 = O 7) ∧ (O 5 = 1 → cl_rel σ (x + 94) sv) ∧ σ (x + 552) = Bf ∧ ∀ i, i < 10 → cs_bd (σ (x + 550 + (8 + 2 * i)))
/-- what the numbers are -/
def lg_ok (B : Int) (O g b h sv Bf L P : Int → Int) (Lo : List Int) : Prop := 0 ≤ B ∧ st_ok B g ∧ md_zf 240 b ∧ (0 ≤ O 3 ∧ O 3 ≤ 8) ∧ (∀ j : Nat, (j : Int) < O 3 → st_ok B (lh_H h j)) ∧ (O 5 = 0 ∨ O 5 = 1) ∧ md_zf 240 sv ∧ (O 5 = 1 → st_ok B sv) ∧ (-1 ≤ O 8 ∧ O 8 ≤ 100) ∧ (-1 ≤ O 9 ∧ O 9 ≤ 100) ∧ (0 ≤ O 7 ∧ O 7 ≤ 60) ∧ (∀ j, 0 ≤ j ∧ j < 60 → 0 ≤ Bf j ∧ Bf j < 65536) ∧ (O 11 = (Lo.length : Nat) ∧ Lo.length ≤ 34) ∧ (∀ i : Nat, i < Lo.length → L (i : Int) = Lo.getD i 0) ∧ (∀ j, 0 ≤ j ∧ j < 60 → 0 ≤ L j ∧ L j < 65536) ∧ md_pb P
/-- where things lie -/
def lp_ok (n : Nat) (t : jk_T) (x v m o d : Nat) : Prop := (x + 582 ≤ m ∧ m + 30 ≤ o ∧ o + 2 ≤ d ∧ d + 2 ≤ n) ∧ (v = x + 580 ∨ d + 2 ≤ v) ∧ v < n ∧ t o = some (.inl (.long, 1)) ∧ t d = some (.inl (.double, 1))
def lr_at (n : Nat) (t : jk_T) (σ : jk_I) (ρ : jk_P) (x m o d v K : Nat) (B : Int) (O g b h sv Bf L P : Int → Int) (Lo : List Int) : Prop := lp_ok n t x v m o d ∧ lm_is t ρ σ m O g b h sv Bf L P ∧ lx_is t ρ σ x v K O g h sv Bf Lo ∧ lg_ok B O g b h sv Bf L P Lo
/-- after k calls -/
def lr (x m o d k : Nat) (n : Nat) (t : jk_T) (σ : jk_I) (ρ : jk_P) : Prop := ∃ (v K : Nat) (B : Int) (O g b h sv Bf L P : Int → Int) (Lo : List Int), lr_at n t σ ρ x m o d v K B O g b h sv Bf L P Lo ∧ B + 85 * O 7 ≤ 85 * (k : Int)
/-! what may be written without its being seen -/
theorem bd_at_f {t : jk_T} {ρ : jk_P} {σ σ' : jk_I} {b v K : Nat} {L : List Int} (h : bd_is t ρ σ b v K L) (h1 : σ' b = σ b) (h2 : σ' v = σ v) : bd_is t ρ σ' b v K L := bd_same h h1 h2
theorem lx_same {t : jk_T} {ρ : jk_P} {σ σ' : jk_I} {x v K : Nat} {O O' g h sv Bf : Int → Int} {Lo : List Int} {B : Int} (hg2 : g 2 ≤ 4) (hsv : O 5 = 1 → sv 2 ≤ 4) (hH : ∀ j : Nat, (j : Int) < O 3 → lh_H h j 2 ≤ 4) (hO0 : 0 ≤ O 3) (hv : v = x + 580 ∨ x + 582 ≤ v) (hO : O' 3 = O 3 ∧ O' 5 = O 5 ∧ O' 7 = O 7 ∧ O' 8 = O 8 ∧ O' 9 = O 9) (hx : lx_is t ρ σ x v K O g h sv Bf Lo) (hf : ∀ a, x ≤ a → (a < x + 512 ∨ x + 546 ≤ a) → (a < x + 582 ∨ a = v) → σ' a = σ a) : lx_is t ρ σ' x v K O' g h sv Bf Lo := by
  obtain ⟨h1, h2, ⟨h3, h4, h5⟩, h6, h7, ⟨h8, h9, h10, h11⟩, h12, h13, h14⟩ := hx
  obtain ⟨o3, o5, o7, o8, o9⟩ := hO
  refine ⟨h1, cl_rel_same hg2 (fun a ha hb => hf a (by omega) (by omega) (by omega)) h2, ⟨cl_nn_same (fun q hq => hf _ (by omega) (by omega) (by omega)) h3, cl_nn_same (fun q hq => hf _ (by omega) (by omega) (by omega)) h4, cl_nn_same (fun q hq => hf _ (by omega) (by omega) (by omega)) h5⟩, ?_, bd_same h7 (hf _ (by omega) (by omega) (by omega)) (hf _ (by omega) (by omega) (by omega)), ⟨?_, ?_, ?_, ?_⟩, fun h => ?_, ?_, fun i hi => ?_⟩
  · rw [o3]; exact hs_rel_same (fun a ha hb => hf a (by omega) (by omega) (by omega)) (fun j hj => hH j (by omega)) h6
  · rw [hf x (by omega) (by omega) (by omega), o5]; exact h8
  · rw [hf x (by omega) (by omega) (by omega), o8]; exact h9
  · rw [hf x (by omega) (by omega) (by omega), o9]; exact h10
  · rw [hf (x + 550) (by omega) (by omega) (by omega), o7]; exact h11
  · rw [o5] at h
    exact cl_rel_same (hsv h) (fun a ha hb => hf a (by omega) (by omega) (by omega)) (h12 h)
  · rw [hf (x + 552) (by omega) (by omega) (by omega)]; exact h13
  · rw [hf _ (by omega) (by omega) (by omega)]; exact h14 i hi
theorem lg_2 {B : Int} {O g b h sv Bf L P : Int → Int} {Lo : List Int} (hg : lg_ok B O g b h sv Bf L P Lo) : g 2 ≤ 4 ∧ (O 5 = 1 → sv 2 ≤ 4) ∧ ∀ j : Nat, (j : Int) < O 3 → lh_H h j 2 ≤ 4 := by
  obtain ⟨h0, h1, h2, h3, h4, h5, h6, h7, -⟩ := hg
  exact ⟨h1.1.1.2.2.1.2, fun h => (h7 h).1.1.2.2.1.2, fun j hj => (h4 j hj).1.1.2.2.1.2⟩
theorem lg_12 {B : Int} {O g b h sv Bf L P : Int → Int} {Lo : List Int} (k : Int) (hg : lg_ok B O g b h sv Bf L P Lo) : lg_ok B (jk_set O 12 k) g b h sv Bf L P Lo := by
  have e : ∀ i, i ≠ 12 → jk_set O 12 k i = O i := fun i hi => jk_set_ne _ _ hi
  unfold lg_ok
  rw [e 3 (by decide), e 5 (by decide), e 7 (by decide), e 8 (by decide), e 9 (by decide), e 11 (by decide)]
  exact hg
theorem lm_same {t : jk_T} {ρ : jk_P} {σ σ' : jk_I} {m : Nat} {O g b h sv Bf L P : Int → Int} (hm : lm_is t ρ σ m O g b h sv Bf L P) (hf : ∀ a, m ≤ a → a < m + 30 → σ' a = σ a) : lm_is t ρ σ' m O g b h sv Bf L P := by
  obtain ⟨h1, ⟨h2, h3, h4, h5, h6, h7, h8, h9⟩, h10, h11⟩ := hm
  refine ⟨h1, ⟨by rw [hf _ (by omega) (by omega)]; exact h2, by rw [hf _ (by omega) (by omega)]; exact h3, by rw [hf _ (by omega) (by omega)]; exact h4, by rw [hf _ (by omega) (by omega)]; exact h5, by rw [hf _ (by omega) (by omega)]; exact h6, by rw [hf _ (by omega) (by omega)]; exact h7, by rw [hf _ (by omega) (by omega)]; exact h8, by rw [hf _ (by omega) (by omega)]; exact h9⟩, fun p hp => ?_, fun p hp => ?_⟩
  · rw [hf (m + 14) (by omega) (by omega), hf (m + 22) (by omega) (by omega), hf (m + 24) (by omega) (by omega)]; exact h10 p hp
  · rw [hf (m + 16) (by omega) (by omega), hf (m + 18) (by omega) (by omega), hf (m + 20) (by omega) (by omega), hf (m + 26) (by omega) (by omega)]; exact h11 p hp
/-- behind a query of the model -/
theorem lm_q {t : jk_T} {ρ : jk_P} {σ σ' : jk_I} {m : Nat} {O g b h sv Bf L P : Int → Int} {k : Int} (hm : lm_is t ρ σ m O g b h sv Bf L P) (hp : md_post m σ σ' O k) : lm_is t ρ σ' m (jk_set O 12 k) g b h sv Bf L P := by
  obtain ⟨h1, ⟨h2, h3, h4, h5, h6, h7, h8, h9⟩, h10, h11⟩ := hm
  obtain ⟨p1, p2, p3, p4⟩ := hp
  have e : ∀ a, (a = m + 2 ∨ a = m + 4 ∨ a = m + 6 ∨ a = m + 8 ∨ a = m + 10 ∨ a = m + 12 ∨ a = m + 28) → σ' a = σ a := fun a ha => p2 a (by unfold md_scr; omega) (by omega)
  exact ⟨h1, ⟨p1, by rw [e _ (by omega)]; exact h3, by rw [e _ (by omega)]; exact h4, by rw [e _ (by omega)]; exact h5, by rw [e _ (by omega)]; exact h6, by rw [e _ (by omega)]; exact h7, by rw [e _ (by omega)]; exact h8, by rw [e _ (by omega)]; exact h9⟩, p3, p4⟩
/-- a query of the class, then one of the model: all stands -/
theorem lr_cq {n n' : Nat} {t : jk_T} {σ σ1 : jk_I} {ρ : jk_P} {x m o d v K : Nat} {B : Int} {O g b h sv Bf L P : Int → Int} {Lo : List Int} (hr : lr_at n t σ ρ x m o d v K B O g b h sv Bf L P Lo) (hn : n ≤ n') (hf : ∀ a, (a < x + 512 ∨ x + 546 ≤ a) → a ≠ o → a ≠ d → σ1 a = σ a) : lr_at n' t σ1 ρ x m o d v K B O g b h sv Bf L P Lo := by
  obtain ⟨⟨⟨p1, p2, p3, p4⟩, p5, p6, p7, p8⟩, hm, hx, hg⟩ := hr
  obtain ⟨e1, e2, e3⟩ := lg_2 hg
  have hO0 := hg.2.2.2.1.1
  exact ⟨⟨⟨p1, p2, p3, by omega⟩, p5, by omega, p7, p8⟩, lm_same hm (fun a h1 h2 => hf a (by omega) (by omega) (by omega)), lx_same (B := B) e1 e2 e3 hO0 (by omega) ⟨rfl, rfl, rfl, rfl, rfl⟩ hx (fun a h1 h2 h3 => hf a h2 (by omega) (by omega)), hg⟩
theorem lr_mq {n : Nat} {t : jk_T} {σ σ1 : jk_I} {ρ : jk_P} {x m o d v K : Nat} {B k : Int} {O g b h sv Bf L P : Int → Int} {Lo : List Int} (hr : lr_at n t σ ρ x m o d v K B O g b h sv Bf L P Lo) (hp : md_post m σ σ1 O k) : lr_at n t σ1 ρ x m o d v K B (jk_set O 12 k) g b h sv Bf L P Lo := by
  obtain ⟨⟨⟨p1, p2, p3, p4⟩, p5, p6, p7, p8⟩, hm, hx, hg⟩ := hr
  obtain ⟨e1, e2, e3⟩ := lg_2 hg
  have hO0 := hg.2.2.2.1.1
  refine ⟨⟨⟨p1, p2, p3, p4⟩, p5, p6, p7, p8⟩, lm_q hm hp, lx_same (B := B) e1 e2 e3 hO0 (by omega) ⟨jk_set_ne _ _ (by decide), jk_set_ne _ _ (by decide), jk_set_ne _ _ (by decide), jk_set_ne _ _ (by decide), jk_set_ne _ _ (by decide)⟩ hx (fun a h1 h2 h3 => hp.2.1 a (by unfold md_scr; omega) (by omega)), lg_12 k hg⟩
/-! what a wrapper of a query answers -/
def wq_P (x o : Nat) (k v : Int) (σ : jk_I) (n : Nat) (t : jk_T) (ρ : jk_P) : jk_Q := fun v' n' t' σ' ρ' => v' = some (jI k) ∧ n ≤ n' ∧ t' = t ∧ ρ' = ρ ∧ (k = 0 → σ' o 0 = jk_w v) ∧ ∀ a, (a < x + 512 ∨ x + 546 ≤ a) → a ≠ o → σ' a = σ a
theorem wq_0 {x o : Nat} {k : Int} {v : Int} {σ : jk_I} {n : Nat} {t : jk_T} {ρ : jk_P} {ex : Int → String} {cs : List String} {v' : Option Value} {n' : Nat} {t' : jk_T} {σ' : jk_I} {ρ' : jk_P} (hk : ∀ i : Nat, i < cs.length → k ≠ 0 → cs.getD i "" = ex k → k = (i : Int) + 1) (h : wQ o cs (ln_RQ x k (jI v) σ n t ρ) (ln_RX x k ex σ n t ρ) v' n' t' σ' ρ') : wq_P x o k v σ n t ρ v' n' t' σ' ρ' := by
  rcases h with ⟨w, σ1, ⟨h1, h2, h3, h4, h5, h6⟩, rfl, rfl⟩ | ⟨i, hi, ⟨h1, h2, h3, h4, h5, h6⟩, rfl⟩
  · subst h1 h3 h4 h5
    have e : jk_w w = jk_w v := by
      have h9 := Option.some.inj h2
      unfold jk_w
      rw [Value.int.inj h9]
    refine ⟨rfl, Nat.le_refl _, rfl, rfl, fun _ => by rw [jk_row_same, jk_set_at, e], fun a h1 h2 => (jk_row_ne _ _ h2).trans (h6 a h1)⟩
  · have e := hk i hi h1 h2
    subst h4 h5
    exact ⟨by rw [e], h3, rfl, rfl, fun h => absurd h h1, fun a h1 h2 => h6 a h1⟩
theorem wq_k1 {k : Int} {a : String} (hk : k = 0 ∨ k = 1) : ∀ i : Nat, i < [a].length → k ≠ 0 → [a].getD i "" = ex_1 a k → k = (i : Int) + 1 := fun i hi h _ => by
  have : i < 1 := hi
  omega
theorem wq_k2 {k : Int} {a b : String} (hab : a ≠ b) (hk : k = 0 ∨ k = 1 ∨ k = 2) : ∀ i : Nat, i < [a, b].length → k ≠ 0 → [a, b].getD i "" = ex_2 a b k → k = (i : Int) + 1 := fun i hi h e => by
  have : i < 2 := hi
  match i, this with
  | 0, _ =>
    by_cases h1 : k = 1
    · omega
    · exact absurd (show a = b by have e2 : a = ex_2 a b k := e; unfold ex_2 at e2; rw [if_neg h1] at e2; exact e2) hab
  | 1, _ =>
    by_cases h1 : k = 1
    · exact absurd (show a = b by have e2 : b = ex_2 a b k := e; unfold ex_2 at e2; rw [if_pos h1] at e2; exact e2.symm) hab
    · omega
theorem wq_k3 {k : Int} {a b c : String} (hab : a ≠ b) (hac : a ≠ c) (hbc : b ≠ c) (hk : k = 0 ∨ k = 1 ∨ k = 2 ∨ k = 3) : ∀ i : Nat, i < [a, b, c].length → k ≠ 0 → [a, b, c].getD i "" = ex_3 a b c k → k = (i : Int) + 1 := fun i hi h e => by
  have : i < 3 := hi
  rcases hk with rfl | rfl | rfl | rfl
  · exact absurd rfl h
  · match i, this with
    | 0, _ => rfl
    | 1, _ => exact absurd (show a = b from (show b = a from e).symm) hab
    | 2, _ => exact absurd (show a = c from (show c = a from e).symm) hac
  · match i, this with
    | 0, _ => exact absurd (show a = b from e) hab
    | 1, _ => rfl
    | 2, _ => exact absurd (show b = c from (show c = b from e).symm) hbc
  · match i, this with
    | 0, _ => exact absurd (show a = c from e) hac
    | 1, _ => exact absurd (show b = c from e) hbc
    | 2, _ => rfl
/-- an answer 0 or 1 -/
theorem jk_wB (b : Bool) : jk_w (jB b) = jB b := by cases b <;> rfl
end L2
