section L2
section JL2
variable {G : jk_G} {M : jk_M} {pc q : Nat} {ls : List (Option Value)} {st : List Value} {n : Nat} {t : jk_T} {σ : jk_I} {ρ : jk_P} {rc rs : Nat} {Q : jk_Q} {X : jk_X}
theorem jk_tabs {a N : Nat} {f : Nat → Int} {x : Int} (hT : ∀ s, jk_Z G s → va_T .int (jk_ad G a) N (fun j => jI (f j)) (jk_A G) s s.heap) (hN : N ≤ 3000) (hx : 0 ≤ x ∧ x < (N : Int)) (hd : decode (jk_cc M) pc = .ok (.iaload, 1)) (hp : pc + 1 = q) (kk : jk_J G M q ls (jI (f x.toNat) :: st) n t σ ρ rc rs Q X) : jk_J G M pc ls (jI x :: .ref a :: st) n t σ ρ rc rs Q X := by
  subst hp
  intro p e R s m args below meth c H locs cells slots ls' C hl hR hS hc hs
  obtain ⟨i1, i2, i3, i4⟩ := jk_ix hx.1 hx.2 (by omega)
  exact va_ti C.1 C.2.1 (hT s C.2.2.2.2.2.2.2.2.2.2.2.2.1) hS i1 (v := jI (f x.toNat)) (by rw [i2]) hd (kk p e R s m args below meth c H locs cells slots ls' C hl hR hS hc hs)
theorem jk_lcmp0 {x y : Int} (h : x = y) (hd : decode (jk_cc M) pc = .ok (.lcmp, 1)) (hp : pc + 1 = q) (k : jk_J G M q ls (jI 0 :: st) n t σ ρ rc rs Q X) : jk_J G M pc ls (jL y :: jL x :: st) n t σ ρ rc rs Q X := by
  subst hp h
  exact jk_pure (fun p e R s m args below meth c H locs cells slots ls' Qf hx hb kk => W.lcmp hx hb hd (by rw [show lg_cmp (Int64.ofInt x) (Int64.ofInt x) = Int32.ofInt 0 by simp [lg_cmp]]; exact kk)) k
def jk_ch (x : Int) : Int := (((Int32.ofInt x).toBitVec.toNat % 65536 : Nat) : Int)
theorem jk_ch_bd (x : Int) : 0 ≤ jk_ch x ∧ jk_ch x < 65536 := by unfold jk_ch; omega
theorem jk_i2cw {x : Int} (hd : decode (jk_cc M) pc = .ok (.i2c, 1)) (hp : pc + 1 = q) (k : jk_J G M q ls (jI (jk_ch x) :: st) n t σ ρ rc rs Q X) : jk_J G M pc ls (jI x :: st) n t σ ρ rc rs Q X := by
  subst hp
  exact jk_pure (fun p e R s m args below meth c H locs cells slots ls' Qf hx hb kk => lv_i2c hx hb hd ((pk_char _).trans (Int32.ofInt_eq_ofNat (n := (Int32.ofInt x).toBitVec.toNat % 65536)).symm) kk) k
end JL2
/-! THE RELATION of class and model -/
def st_ok (B : Int) (g : Int → Int) : Prop := md_all B g ∧ md_sit g
theorem st_ok_up {B B2 : Int} {g : Int → Int} (h : st_ok B g) (h2 : B ≤ B2) (h3 : B2 ≤ 1100000) : st_ok B2 g := ⟨md_all_up h.1 h2 h3, h.2⟩
/-! what may be written without its being seen -/
/-! what a wrapper of a query answers -/
/-- an answer 0 or 1 -/
theorem jk_wB (b : Bool) : jk_w (jB b) = jB b := by cases b <;> rfl
end L2

