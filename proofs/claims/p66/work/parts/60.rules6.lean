section JX6
variable {G : jk_G} {M : jk_M} {pc q : Nat} {ls : List (Option Value)} {st : List Value} {n : Nat} {t : jk_T} {σ σ' : jk_I} {ρ ρ' : jk_P} {rc rs : Nat} {Q : jk_Q} {X : jk_X}
/-! rows of rows: the outer one at n, the inner ones at n + 2, n + 4 .. -/
def jk_mt (t : jk_T) (n N K : Nat) : jk_T := fun b => if b = n then some (.inl (.array .int, N)) else if n < b ∧ b ≤ n + 2 * N ∧ b % 2 = n % 2 then some (.inl (.int, K)) else t b
def jk_mz (σ : jk_I) (n N : Nat) : jk_I := fun b j => if n ≤ b ∧ b ≤ n + 2 * N ∧ b % 2 = n % 2 then 0 else σ b j
def jk_mr (ρ : jk_P) (n N : Nat) : jk_P := fun b j => if b = n then (if 0 ≤ j ∧ j < (N : Int) then some (n + 2 + 2 * j.toNat) else none) else if n < b ∧ b ≤ n + 2 * N ∧ b % 2 = n % 2 then none else ρ b j
theorem jk_outer (c : ClassId) (N h0 : Nat) : ∀ i : Nat, Jvm.Free.Multi.outerC c N h0 i = arrV c N (fun j => va_rf (if j < i then some (h0 + 1 + j) else none))
  | 0 => by
    show ({ cls := c, slots := Array.replicate N .null, vm := .none } : Cell) = _
    rw [arrV_new]
    refine congrArg (arrV c N) (funext fun j => ?_)
    simp [va_rf]
  | i + 1 => by
    show (Jvm.Free.Multi.outerC c N h0 i).setSlot i (.ref (h0 + 1 + i)) = _
    rw [jk_outer c N h0 i, arrV_store]
    refine congrArg (arrV c N) (funext fun j => ?_)
    by_cases e : j = i
    · subst e
      simp [updV, va_rf]
    · by_cases h : j < i
      · simp [updV, e, h, Nat.lt_succ_of_lt h]
      · simp [updV, e, h, show ¬ j < i + 1 by omega]
theorem jk_clamp {len : Nat} (h : len < 2147483648) : (Int32.ofInt (len : Int)).toInt = (len : Int) ∧ (Int32.ofInt (len : Int)).toNatClampNeg = len ∧ ¬ Int32.ofInt (len : Int) < 0 := by
  have hi : (Int32.ofInt (len : Int)).toInt = (len : Int) := jk_ti ⟨by omega, by omega⟩
  refine ⟨hi, by show (Int32.ofInt (len : Int)).toInt.toNat = _; rw [hi]; rfl, fun h9 => ?_⟩
  rw [Int32.lt_iff_toInt_lt, hi] at h9
  have : (0 : Int32).toInt = 0 := rfl
  omega
set_option maxHeartbeats 1000000 in
theorem jk_mna {N K index : Nat} {x y : Int} (hx : x = (N : Int)) (hy : y = (K : Int)) {nm : String} (hnm : "[" ++ (FieldType.array .int).toString = nm) (hw1 : Cond.classLink (jk_own M) index nm ∈ jk_WS) (hw2 : Cond.arrayOver (.array .int) ∈ jk_WS) (hw3 : Cond.arrayClass .int ∈ jk_WS) (hN : N ≤ 1000) (hK : K ≤ 1000) (hrc : 1 + N ≤ rc) (hrs : N + N * K ≤ rs) (hd : decode (jk_cc M) pc = .ok (.multianewarray index 2, 4)) (hp : pc + 4 = q)
    (kk : jk_J G M q ls (.ref n :: st) (n + 2 + 2 * N) (jk_mt t n N K) (jk_mz σ n N) (jk_mr ρ n N) (rc - (1 + N)) (rs - (N + N * K)) Q X) : jk_J G M pc ls (jI y :: jI x :: st) n t σ ρ rc rs Q X := by
  subst hp hx hy
  intro p e R s m args below meth c H locs cells slots ls' C hl hR hS hc hs
  have hts := C.2.2.2.2.2.2.1
  obtain ⟨-, cN, pN⟩ := jk_clamp (len := N) (by omega)
  obtain ⟨-, cK, pK⟩ := jk_clamp (len := K) (by omega)
  intro T hT Xs
  have hm := Xs.multianewarray2F C.1 C.2.2.2.2.2.1 (by rw [hnm]; exact hts _ hw1) (hts _ hw2) (hts _ hw3) (g := F0 m pc ls' (.int (Int32.ofInt (K : Int)) :: .int (Int32.ofInt (N : Int)) :: st.map (jk_re G))) rfl (by rw [C.2.1]; exact hd) rfl pN pK (by rw [cN]; omega) (by rw [cK]; simp only [componentBytes]; omega) (by rw [cK]; omega) rfl rfl (by rw [cN]; omega) (by rw [cN, cK]; omega)
  rw [cN, cK] at hm
  obtain ⟨vm₁, cA, comp, -, fA, fC, hO, hI, X', step⟩ := hm
  generalize hF : Jvm.Free.Multi.fill (T.setVm vm₁) cA comp N K (defaultValue .int) N = F at X' step
  have hTh : (T.setVm vm₁).heap = H := hT
  obtain ⟨f1, f2, -, -⟩ := Jvm.Free.Multi.fill_facts (T.setVm vm₁) cA comp N K (defaultValue .int) N
  rw [hF, hTh] at f1 f2
  have hold : ∀ x : Nat, x < H.size → F.heap[x]? = H[x]? := fun x hx => by
    have := Jvm.Free.Multi.fill_old (T.setVm vm₁) cA comp N K (defaultValue .int) (a := x) (by rw [hTh]; exact hx) N
    rw [hF, hTh] at this
    exact this
  have hrow : ∀ j : Nat, j < N → F.heap[H.size + 1 + j]? = some (arrV comp K (fun _ => .int 0)) := fun j hj => by
    have := Jvm.Free.Multi.fill_inner (T.setVm vm₁) cA comp N K (defaultValue .int) N j hj
    rw [hF, hTh] at this
    rw [this]
    show some ({ cls := comp, slots := Array.replicate K (.int 0), vm := .none } : Cell) = _
    rw [arrV_new]
  rw [jk_outer] at f2
  have hna := jk_new_ad hR
  have h64 := hR.1
  have hpar := hR.2.1
  have hsz := hR.2.2.1
  have hAr1 : ArrOfT s cA (.array .int) := by
    obtain ⟨-, kA, g2, comp2, g3⟩ := (hO 0 0 0).1
    exact fun nn z => ⟨(fun k h => by cases h), kA, g2, comp2, g3⟩
  have hAr2 : ArrOfT s comp .int := by
    obtain ⟨-, kA, g2, comp2, g3⟩ := (hI 0 (.int 0)).1
    exact fun nn z => ⟨(fun k h => by cases h), kA, g2, comp2, g3⟩
  have hR2 : jk_R G s F.heap (n + 2 + 2 * N) (jk_mt t n N K) (jk_mz σ n N) (jk_mr ρ n N) := by
    refine ⟨by omega, by omega, by omega, fun b => ?_⟩
    by_cases hb : b = n
    · subst hb
      show jk_cell G s F.heap _ _ (if _ then _ else _) _ _
      rw [if_pos rfl]
      refine ⟨by omega, by omega, by omega, by omega, cA, ?_, hAr1, fA⟩
      rw [← hna, f2]
      refine congrArg some (congrArg (arrV cA N) (funext fun j => ?_))
      show va_rf _ = va_rf ((if b = b then (if 0 ≤ (j : Int) ∧ (j : Int) < (N : Int) then some (b + 2 + 2 * ((j : Int)).toNat) else none) else _).map (jk_ad G))
      rw [if_pos rfl]
      by_cases hj : j < N
      · rw [if_pos hj, if_pos (by omega)]
        show va_rf _ = va_rf (some (jk_ad G (b + 2 + 2 * ((j : Int)).toNat)))
        rw [jk_ad_even (by omega) (by omega)]
        congr 2
        omega
      · rw [if_neg hj, if_neg (by omega)]; rfl
    · by_cases hb2 : n < b ∧ b ≤ n + 2 * N ∧ b % 2 = n % 2
      · show jk_cell G s F.heap _ _ (if _ then _ else if _ then _ else _) _ _
        rw [if_neg hb, if_pos hb2]
        refine ⟨by omega, by omega, by omega, by omega, comp, ?_, hAr2, fC⟩
        have e9 : jk_ad G b = H.size + 1 + (b - n - 2) / 2 := by rw [jk_ad_even (by omega) (by omega), hsz]; omega
        rw [e9, hrow _ (by omega)]
        refine congrArg some (congrArg (arrV comp K) (funext fun j => ?_))
        show Value.int 0 = Value.int (Int32.ofInt (if _ then 0 else _))
        rw [if_pos ⟨by omega, hb2.2.1, hb2.2.2⟩]; rfl
      · have e1 : jk_mt t n N K b = t b := by unfold jk_mt; rw [if_neg hb, if_neg hb2]
        have e2 : jk_mz σ n N b = σ b := funext fun j => if_neg (fun h => hb2 ⟨by omega, h.2.1, h.2.2⟩)
        have e3 : jk_mr ρ n N b = ρ b := funext fun j => by unfold jk_mr; rw [if_neg hb, if_neg hb2]
        rw [e1, e2, e3]
        exact jk_cell_kept (hR.2.2.2 b) (by omega) (fun h6b hbn heb => hold _ (by rw [jk_ad_even h6b heb]; omega))
  obtain ⟨t2, a1, b1⟩ := kk p e R s m args below meth c F.heap locs (cells + 1 + N) (slots + N + N * K) ls' C hl hR2 ⟨by have := hS.1; omega, fun x h1 h2 => (hold x (Nat.lt_of_lt_of_le h1 hS.1)).trans (hS.2.1 x h1 h2), hS.2.2⟩ (by omega) (by omega) F rfl X'
  refine ⟨t2, step t2 ?_, b1⟩
  have e5 : (Value.ref T.heap.size :: st.map (jk_re G)) = (Value.ref n :: st).map (jk_re G) := by
    show _ = Value.ref (jk_ad G n) :: _
    rw [← hna, hT]
  show Steps p.tables e below (F.setTop { F0 m pc ls' _ with pc := pc + 4, stack := .ref T.heap.size :: st.map (jk_re G) }) t2
  rw [e5]
  exact a1
theorem jk_anew {C : String} {index len : Nat} {x : Int} (hx : x = (len : Int)) (hw : Cond.classLink (jk_own M) index C ∈ jk_WS) (hov : Cond.arrayOver (.object C) ∈ jk_WS) (hlen : len ≤ 1000) (hrc : 1 ≤ rc) (hrs : len ≤ rs) (hd : decode (jk_cc M) pc = .ok (.anewarray index, 3)) (hp : pc + 3 = q)
    (kk : jk_J G M q ls (.ref n :: st) (n + 2) (jk_tg t n (.inl (.object C, len))) (jk_zr σ n 0) (jk_zr ρ n none) (rc - 1) (rs - len) Q X) : jk_J G M pc ls (jI x :: st) n t σ ρ rc rs Q X := by
  subst hp hx
  intro p e R s m args below meth c H locs cells slots ls' Cc hl hR hS hc hs
  have hts := Cc.2.2.2.2.2.2.1
  obtain ⟨-, cN, pN⟩ := jk_clamp (len := len) (by omega)
  refine W.anew Cc.1 Cc.2.1 Cc.2.2.2.2.2.1 (hts _ hw) (hts _ hov) rfl hd rfl pN (by rw [cN]; omega) (by omega) (by rw [cN]; omega) fun cA kA comp f1 f2 f3 f4 => ?_
  rw [cN]
  generalize hH1 : H.push ({ cls := cA, slots := Array.replicate len .null, vm := .none } : Cell) = H1
  have z1 : H1.size = H.size + 1 := by rw [← hH1, Array.size_push]
  have e1 : H1[H.size]? = some (arrV cA len (fun _ => .null)) := by rw [← hH1, Array.getElem?_push_size, ← arrV_new]
  have o1 : ∀ q : Nat, q < H.size → H1[q]? = H[q]? := fun q hq => by rw [← hH1, Array.getElem?_push, if_neg (Nat.ne_of_lt hq)]
  have hna := jk_new_ad hR
  have k2 := kk p e R s m args below meth c H1 locs (cells + 1) (slots + len) ls' Cc hl (jk_R_push hR z1 o1 ?_ (fun b hb => jk_zr_row σ 0 hb) (fun b hb => jk_zr_row ρ none hb)) ⟨by have := hS.1; omega, fun x h1 h2 => (o1 x (Nat.lt_of_lt_of_le h1 hS.1)).trans (hS.2.1 x h1 h2), hS.2.2⟩ (by omega) (by omega)
  · have e5 : (Value.ref H.size :: st.map (jk_re G)) = (Value.ref n :: st).map (jk_re G) := by
      show _ = Value.ref (jk_ad G n) :: _
      rw [← hna]
    show W p (jk_l G) e R s m args below meth c H1 locs (cells + 1) (slots + len) _ { F0 m pc ls' _ with pc := pc + 3, stack := .ref H.size :: st.map (jk_re G) }
    rw [e5]
    exact k2
  · refine ⟨hR.1, by omega, hR.2.1, by omega, cA, ?_, fun nn z => ⟨(fun k h => by cases h), kA, f2, comp, f3⟩, kA, comp, f2, f3, f4, f1⟩
    rw [← hna, e1]
    refine congrArg some (congrArg (arrV cA len) (funext fun j => ?_))
    show Value.null = va_rf ((if n = n then none else _).map (jk_ad G))
    rw [if_pos rfl]; rfl
theorem jk_cls {C : String} {c : ClassId} {args : Array Value} {s : State} (hw : (Cond.initialized C).before args s = true) (hf : s.vm.findClass C = some c) : ∃ k, s.vm.classes[c]? = some k := by
  cases hk : s.vm.classes[c]? with
  | some k => exact ⟨k, rfl⟩
  | none =>
    simp [Cond.before, Cond.holds, Cond.value, hf, hk] at hw
/-- a reference into a row of references -/
theorem jk_aast {C : String} {a b len : Nat} {x : Int} (ht : t a = some (.inl (.object C, len))) (hx : 0 ≤ x ∧ x < (len : Int)) (hi : Cond.initialized C ∈ jk_WS) (hv : (∃ k, t b = some (.inr k) ∧ (jk_cl k).1 = C) ∨ ∀ s, jk_Z G s → va_O C (jk_ad G b) (jk_A G) s s.heap) (hd : decode (jk_cc M) pc = .ok (.aastore, 1)) (hp : pc + 1 = q)
    (kk : jk_J G M q ls st n t σ (jk_up ρ a x (some b)) rc rs Q X) : jk_J G M pc ls (.ref b :: jI x :: .ref a :: st) n t σ ρ rc rs Q X := by
  subst hp
  intro p e R s m args below meth c H locs cells slots ls' Cc hl hR hS hc hs
  have hts := Cc.2.2.2.2.2.2.1
  have hcell := hR.2.2.2 a
  rw [ht] at hcell
  obtain ⟨h6, han, hae, hlen, cA, q1, q2, q3⟩ := hcell
  obtain ⟨kA, comp, r1, r2, r3, r4⟩ := q3
  obtain ⟨i1, i2, i3, i4⟩ := jk_ix hx.1 hx.2 hlen
  obtain ⟨kc, hkc⟩ := jk_cls (hts _ hi) r3
  have hval : ∃ cv : Cell, H[jk_ad G b]? = some cv ∧ cv.vm.isStatics = false ∧ cv.cls = comp := by
    rcases hv with ⟨k, hk, rfl⟩ | hv
    · obtain ⟨cv, v1, v2, v3⟩ := jk_recv hR hk
      exact ⟨cv, v1, v2, Option.some.inj (v3.symm.trans r3)⟩
    · obtain ⟨cv, v1, v2, v3, v4⟩ := (hv s Cc.2.2.2.2.2.2.2.2.2.2.2.2.1).kept hS.2.1
      exact ⟨cv, v1, v2, Option.some.inj (v3.symm.trans r3)⟩
  obtain ⟨cv, v1, v2, v3⟩ := hval
  refine W.aast Cc.1 Cc.2.1 q1 (fun q h => by cases h) (fun h => by cases h) r1 r2 rfl hkc ⟨fun h => i1 (Or.inl h), by rw [arrV_size]; omega⟩ v1 (fun q h => by rw [h] at v2; cases v2) (by rw [v3]; exact hkc) (by rw [v3]; exact va_asg _ _) rfl rfl hd fun H' e1 e2 e3 => ?_
  rw [i2, arrV_store] at e1
  rw [i2]
  refine kk p e R s m args below meth c H' _ cells slots ls' Cc hl (jk_R_set hR e2 e3 h6 hae ?_ (fun b hb => rfl) (fun b2 hb => jk_up_row ρ x (some b) hb)) (hS.put e2 e3 (jk_ad_A h6 hae)) hc hs
  rw [ht]
  refine ⟨h6, han, hae, hlen, cA, e1.trans ?_, q2, kA, comp, r1, r2, r3, r4⟩
  congr 2
  funext j
  by_cases hj : j = x.toNat
  · subst hj; simp [updV, i4, jk_up, jk_E, va_rf]
  · have : ¬ (j : Int) = x := by omega
    simp [updV, hj, jk_up, this]
/-! the launch's own things -/
theorem jk_gets {index a : Nat} {ref nm ds : String} (hz : ∀ s, jk_Z G s → va_Z ref nm ds (.ref (jk_ad G a)) (jk_A G) s s.heap) (hw : Cond.fieldLink (jk_own M) index ref nm ds ∈ jk_WS) (hd : decode (jk_cc M) pc = .ok (.getstatic index, 3)) (hp : pc + 3 = q) (kk : jk_J G M q ls (.ref a :: st) n t σ ρ rc rs Q X) : jk_J G M pc ls st n t σ ρ rc rs Q X := by
  subst hp
  intro p e R s m args below meth c H locs cells slots ls' C hl hR hS hc hs
  exact va_gets C.1 C.2.1 (hz s C.2.2.2.2.2.2.2.2.2.2.2.2.1) hS C.2.2.2.2.2.1 (C.2.2.2.2.2.2.1 _ hw) (fun _ h => h) hd (kk p e R s m args below meth c H locs cells slots ls' C hl hR hS hc hs)
theorem jk_getsI {index : Nat} {x : Int} {ref nm ds : String} (hz : ∀ s, jk_Z G s → va_Z ref nm ds (jI x) (jk_A G) s s.heap) (hw : Cond.fieldLink (jk_own M) index ref nm ds ∈ jk_WS) (hd : decode (jk_cc M) pc = .ok (.getstatic index, 3)) (hp : pc + 3 = q) (kk : jk_J G M q ls (jI x :: st) n t σ ρ rc rs Q X) : jk_J G M pc ls st n t σ ρ rc rs Q X := by
  subst hp
  intro p e R s m args below meth c H locs cells slots ls' C hl hR hS hc hs
  exact va_gets C.1 C.2.1 (hz s C.2.2.2.2.2.2.2.2.2.2.2.2.1) hS C.2.2.2.2.2.1 (C.2.2.2.2.2.2.1 _ hw) (fun _ h => h) hd (kk p e R s m args below meth c H locs cells slots ls' C hl hR hS hc hs)
theorem jk_getsN {index a : Nat} {ref nm ds host : String} (hz : ∀ s, jk_Z G s → va_Z ref nm ds (.ref (jk_ad G a)) (jk_A G) s s.heap) (hw : Cond.fieldLinkNest (jk_own M) index ref nm ds host ∈ jk_WS) (hd : decode (jk_cc M) pc = .ok (.getstatic index, 3)) (hp : pc + 3 = q) (kk : jk_J G M q ls (.ref a :: st) n t σ ρ rc rs Q X) : jk_J G M pc ls st n t σ ρ rc rs Q X := by
  subst hp
  intro p e R s m args below meth c H locs cells slots ls' C hl hR hS hc hs
  exact va_getsN C.1 C.2.1 (hz s C.2.2.2.2.2.2.2.2.2.2.2.2.1) hS C.2.2.2.2.2.1 (C.2.2.2.2.2.2.1 _ hw) (fun _ h => h) hd (kk p e R s m args below meth c H locs cells slots ls' C hl hR hS hc hs)
theorem jk_tabi {a N : Nat} {f : Nat → Int} {x : Int} (hT : ∀ s, jk_Z G s → va_T .int (jk_ad G a) N (fun j => jI (f j)) (jk_A G) s s.heap) (hN : N ≤ 1000) (hx : 0 ≤ x ∧ x < (N : Int)) (hd : decode (jk_cc M) pc = .ok (.iaload, 1)) (hp : pc + 1 = q) (kk : jk_J G M q ls (jI (f x.toNat) :: st) n t σ ρ rc rs Q X) : jk_J G M pc ls (jI x :: .ref a :: st) n t σ ρ rc rs Q X := by
  subst hp
  intro p e R s m args below meth c H locs cells slots ls' C hl hR hS hc hs
  obtain ⟨i1, i2, i3, i4⟩ := jk_ix hx.1 hx.2 (by omega)
  exact va_ti C.1 C.2.1 (hT s C.2.2.2.2.2.2.2.2.2.2.2.2.1) hS i1 (v := jI (f x.toNat)) (by rw [i2]) hd (kk p e R s m args below meth c H locs cells slots ls' C hl hR hS hc hs)
theorem jk_tabb {a N : Nat} {f : Nat → Int} {x : Int} (hT : ∀ s, jk_Z G s → va_T .byte (jk_ad G a) N (fun j => jI (f j)) (jk_A G) s s.heap) (hN : N ≤ 1000) (hx : 0 ≤ x ∧ x < (N : Int)) (hd : decode (jk_cc M) pc = .ok (.baload, 1)) (hp : pc + 1 = q) (kk : jk_J G M q ls (jI (f x.toNat) :: st) n t σ ρ rc rs Q X) : jk_J G M pc ls (jI x :: .ref a :: st) n t σ ρ rc rs Q X := by
  subst hp
  intro p e R s m args below meth c H locs cells slots ls' C hl hR hS hc hs
  obtain ⟨i1, i2, i3, i4⟩ := jk_ix hx.1 hx.2 (by omega)
  exact va_tb C.1 C.2.1 (hT s C.2.2.2.2.2.2.2.2.2.2.2.2.1) hS i1 (v := jI (f x.toNat)) (by rw [i2]) hd (kk p e R s m args below meth c H locs cells slots ls' C hl hR hS hc hs)
theorem jk_tabq {C9 : String} {a N : Nat} {f : Nat → Nat} {x : Int} (hT : ∀ s, jk_Z G s → va_T (.object C9) (jk_ad G a) N (fun j => .ref (jk_ad G (f j))) (jk_A G) s s.heap) (hN : N ≤ 1000) (hx : 0 ≤ x ∧ x < (N : Int)) (hd : decode (jk_cc M) pc = .ok (.aaload, 1)) (hp : pc + 1 = q) (kk : jk_J G M q ls (.ref (f x.toNat) :: st) n t σ ρ rc rs Q X) : jk_J G M pc ls (jI x :: .ref a :: st) n t σ ρ rc rs Q X := by
  subst hp
  intro p e R s m args below meth c H locs cells slots ls' C hl hR hS hc hs
  obtain ⟨i1, i2, i3, i4⟩ := jk_ix hx.1 hx.2 (by omega)
  exact vb_tq C.1 C.2.1 (hT s C.2.2.2.2.2.2.2.2.2.2.2.2.1) hS i1 (v := .ref (jk_ad G (f x.toNat))) (by rw [i2]) hd (kk p e R s m args below meth c H locs cells slots ls' C hl hR hS hc hs)
theorem jk_tlen {a N : Nat} {ty : FieldType} {f : Nat → Value} (hT : ∀ s, jk_Z G s → va_T ty (jk_ad G a) N f (jk_A G) s s.heap) (hd : decode (jk_cc M) pc = .ok (.arraylength, 1)) (hp : pc + 1 = q) (kk : jk_J G M q ls (jI (N : Int) :: st) n t σ ρ rc rs Q X) : jk_J G M pc ls (.ref a :: st) n t σ ρ rc rs Q X := by
  subst hp
  intro p e R s m args below meth c H locs cells slots ls' C hl hR hS hc hs
  exact va_tlen C.1 C.2.1 (hT s C.2.2.2.2.2.2.2.2.2.2.2.2.1) hS (v := Int32.ofInt (N : Int)) (Int32.ofInt_eq_ofNat).symm hd (kk p e R s m args below meth c H locs cells slots ls' C hl hR hS hc hs)
theorem jk_oget {a index : Nat} {v : Value} {o nm ds : String} (hE : ∀ s, jk_Z G s → va_OF o nm ds (jk_re G v) (jk_ad G a) (jk_A G) s s.heap) (hw : Cond.fieldLink (jk_own M) index o nm ds ∈ jk_WS) (hd : decode (jk_cc M) pc = .ok (.getfield index, 3)) (hp : pc + 3 = q) (kk : jk_J G M q ls (v :: st) n t σ ρ rc rs Q X) : jk_J G M pc ls (.ref a :: st) n t σ ρ rc rs Q X := by
  subst hp
  intro p e R s m args below meth c H locs cells slots ls' C hl hR hS hc hs
  exact vk_getf C.1 C.2.1 (hE s C.2.2.2.2.2.2.2.2.2.2.2.2.1) hS C.2.2.2.2.2.1 (C.2.2.2.2.2.2.1 _ hw) (fun _ h => h) hd (kk p e R s m args below meth c H locs cells slots ls' C hl hR hS hc hs)
theorem jk_acmp_neT {a b q2 : Nat} {off : Int} (hne : jk_ad G a ≠ jk_ad G b) (hd : decode (jk_cc M) pc = .ok (.if_acmp .ne off, 3)) (hp : (pc : Int) + off = (q : Int)) (kk : jk_J G M q ls st n t σ ρ rc rs Q X) : jk_J G M pc ls (.ref b :: .ref a :: st) n t σ ρ rc rs Q X :=
  fun p e R s m args below meth c H locs cells slots ls' C hl hR hS hc hs => lv_acmp_ne (rx := some (jk_ad G a)) (ry := some (jk_ad G b)) C.1 C.2.1 hd hp (fun _ => kk p e R s m args below meth c H locs cells slots ls' C hl hR hS hc hs) (fun h => absurd (Option.some.inj h) hne)
theorem jk_acmp_neN {a b : Nat} {off : Int} (he : a = b) (hp2 : ∃ q2 : Nat, (pc : Int) + off = (q2 : Int)) (hd : decode (jk_cc M) pc = .ok (.if_acmp .ne off, 3)) (hp : pc + 3 = q) (kk : jk_J G M q ls st n t σ ρ rc rs Q X) : jk_J G M pc ls (.ref b :: .ref a :: st) n t σ ρ rc rs Q X := by
  subst hp he
  obtain ⟨q2, hq2⟩ := hp2
  exact fun p e R s m args below meth c H locs cells slots ls' C hl hR hS hc hs => lv_acmp_ne (rx := some (jk_ad G a)) (ry := some (jk_ad G a)) C.1 C.2.1 hd hq2 (fun h => absurd rfl h) (fun _ => kk p e R s m args below meth c H locs cells slots ls' C hl hR hS hc hs)
theorem jk_acmp_eqT {a b : Nat} {off : Int} (he : a = b) (hd : decode (jk_cc M) pc = .ok (.if_acmp .eq off, 3)) (hp : (pc : Int) + off = (q : Int)) (kk : jk_J G M q ls st n t σ ρ rc rs Q X) : jk_J G M pc ls (.ref b :: .ref a :: st) n t σ ρ rc rs Q X := by
  subst he
  exact fun p e R s m args below meth c H locs cells slots ls' C hl hR hS hc hs => lv_acmp_eq (rx := some (jk_ad G a)) (ry := some (jk_ad G a)) C.1 C.2.1 hd hp (fun _ => kk p e R s m args below meth c H locs cells slots ls' C hl hR hS hc hs) (fun h => absurd rfl h)
theorem jk_acmp_eqN {a b : Nat} {off : Int} (hne : jk_ad G a ≠ jk_ad G b) (hp2 : ∃ q2 : Nat, (pc : Int) + off = (q2 : Int)) (hd : decode (jk_cc M) pc = .ok (.if_acmp .eq off, 3)) (hp : pc + 3 = q) (kk : jk_J G M q ls st n t σ ρ rc rs Q X) : jk_J G M pc ls (.ref b :: .ref a :: st) n t σ ρ rc rs Q X := by
  subst hp
  obtain ⟨q2, hq2⟩ := hp2
  exact fun p e R s m args below meth c H locs cells slots ls' C hl hR hS hc hs => lv_acmp_eq (rx := some (jk_ad G a)) (ry := some (jk_ad G b)) C.1 C.2.1 hd hq2 (fun h => absurd (Option.some.inj h) hne) (fun _ => kk p e R s m args below meth c H locs cells slots ls' C hl hR hS hc hs)
theorem jk_ifnull {a : Nat} {off : Int} (hd : decode (jk_cc M) pc = .ok (.ifnull off, 3)) (hp : pc + 3 = q) (kk : jk_J G M q ls st n t σ ρ rc rs Q X) : jk_J G M pc ls (.ref a :: st) n t σ ρ rc rs Q X := by
  subst hp
  exact jk_pure (st2 := st) (fun p e R s m args below meth c H locs cells slots ls' Qf hx hb k2 => lv_ifnull hx hb hd k2) kk
theorem jk_ifnullN {off : Int} (hd : decode (jk_cc M) pc = .ok (.ifnull off, 3)) (hp : (pc : Int) + off = (q : Int)) (kk : jk_J G M q ls st n t σ ρ rc rs Q X) : jk_J G M pc ls (.null :: st) n t σ ρ rc rs Q X :=
  jk_pure (st2 := st) (fun p e R s m args below meth c H locs cells slots ls' Qf hx hb k2 => lv_ifnullN hx hb hd hp k2) kk
theorem jk_ifnonnull {a : Nat} {off : Int} (hd : decode (jk_cc M) pc = .ok (.ifnonnull off, 3)) (hp : (pc : Int) + off = (q : Int)) (kk : jk_J G M q ls st n t σ ρ rc rs Q X) : jk_J G M pc ls (.ref a :: st) n t σ ρ rc rs Q X :=
  jk_pure (st2 := st) (fun p e R s m args below meth c H locs cells slots ls' Qf hx hb k2 => lv_ifnonnull hx hb hd hp k2) kk
theorem jk_ifnonnullN {off : Int} (hd : decode (jk_cc M) pc = .ok (.ifnonnull off, 3)) (hp : pc + 3 = q) (kk : jk_J G M q ls st n t σ ρ rc rs Q X) : jk_J G M pc ls (.null :: st) n t σ ρ rc rs Q X := by
  subst hp
  exact jk_pure (st2 := st) (fun p e R s m args below meth c H locs cells slots ls' Qf hx hb k2 => lv_ifnonnullN hx hb hd k2) kk
/-- a virtual call on one of the launch's own objects -/
theorem jk_callVO {y : MethodName} {M1 : jk_M} {mc ms index na : Nat} {b : Nat} {As rest : List Value} {Q1 : jk_Q} {X1 : jk_X} (hO : ∀ s, jk_Z G s → va_O y.cls (jk_ad G b) (jk_A G) s s.heap) (hK : jk_K G y M1 mc ms (.ref b :: As) n t σ ρ Q1 X1) (hm : jk_mV y M1 na) (hw : Cond.methodLink (jk_own M) index y ∈ jk_WS) (hna : As.length = na) (hdep : jk_d M1 + 1 ≤ jk_d M) (hlen : rest.length ≤ 4) (hmc : mc ≤ rc) (hms : ms ≤ rs) (htb : ∀ x ∈ jk_tb M, covers x pc = false)
    (hd : decode (jk_cc M) pc = .ok (.invokevirtual index, 3)) (hp : pc + 3 = q) (kk : ∀ v n' t' σ' ρ', Q1 v n' t' σ' ρ' → jk_J G M q ls (v.toList ++ rest) n' t' σ' ρ' (rc - mc) (rs - ms) Q X) (kx : ∀ E n' t' σ' ρ', X1 E n' t' σ' ρ' → X E n' t' σ' ρ') : jk_J G M pc ls (As.reverse ++ .ref b :: rest) n t σ ρ rc rs Q X := by
  subst hp
  intro p e R s m args below meth c H locs cells slots ls' C hl hR hS hc hs
  have hts := C.2.2.2.2.2.2.1
  have hok := C.2.2.2.2.2.2.2.2.2.2.2.1
  have hZ := C.2.2.2.2.2.2.2.2.2.2.2.2.1
  have hb0 := C.2.2.2.2.2.2.2.2.2.2.2.2.2
  obtain ⟨cv, v1, v2, v3, v4⟩ := (hO s hZ).kept hS.2.1
  refine jk_behind (M := M) (mc := mc) (ms := ms) (rc' := rc - mc) (rs' := rs - ms) (rest := rest) (Q1 := Q1) (X1 := X1) (vx_runV (As := As.map (jk_re G)) (C := y.cls) (own := jk_own M) (cc := jk_cc M) (nL := jk_nL M) (Ts := jk_WS) (n := na) ⟨C.1, C.2.1, C.2.2.1, C.2.2.2.2.2.1, hts⟩ hK ⟨jk_callB C hm.1 hw hdep, hts _ hm.2.1, hts _ hm.2.2⟩ ⟨jk_blind, ⟨cv, v1, v2, v3⟩, fun U hU hW => ⟨rfl, hok, jk_Zat hok hZ hb0 hS hU hW, by rw [hU]; exact Nat.le_trans hb0 hS.1, by rw [hU]; exact jk_R_moved hW.alike hR⟩⟩ rfl (by rw [List.length_map]; exact hna) (jk_fsz hl) (by simp [F0, jk_re]) ?_ hd ⟨by omega, by omega⟩) C hl hS (by omega) (by omega) htb kk kx
  exact lv_room (Nat.le_trans (jk_catsum rest) (by omega))
/-- .. of a method that its class inherits -/
theorem jk_callUO {x y : MethodName} {Cn owner : String} {M1 : jk_M} {mc ms index na : Nat} {b : Nat} {As rest : List Value} {Q1 : jk_Q} {X1 : jk_X} (hO : ∀ s, jk_Z G s → va_O Cn (jk_ad G b) (jk_A G) s s.heap) (hK : jk_K G y M1 mc ms (.ref b :: As) n t σ ρ Q1 X1) (hm : jk_me y M1 na) (hyx : y = ⟨owner, x.name, x.desc⟩) (hinst : Cond.instanceMethod y ∈ jk_WS) (hsel : Cond.selects Cn x y ∈ jk_WS) (hsame : Cond.sameMethod x.cls owner x.name x.desc ∈ jk_WS) (hw : Cond.methodLink (jk_own M) index x ∈ jk_WS) (hna : As.length = na) (hdep : jk_d M1 + 1 ≤ jk_d M) (hlen : rest.length ≤ 4) (hmc : mc ≤ rc) (hms : ms ≤ rs) (htb : ∀ x ∈ jk_tb M, covers x pc = false)
    (hd : decode (jk_cc M) pc = .ok (.invokevirtual index, 3)) (hp : pc + 3 = q) (kk : ∀ v n' t' σ' ρ', Q1 v n' t' σ' ρ' → jk_J G M q ls (v.toList ++ rest) n' t' σ' ρ' (rc - mc) (rs - ms) Q X) (kx : ∀ E n' t' σ' ρ', X1 E n' t' σ' ρ' → X E n' t' σ' ρ') : jk_J G M pc ls (As.reverse ++ .ref b :: rest) n t σ ρ rc rs Q X := by
  subst hp
  intro p e R s m args below meth c H locs cells slots ls' C hl hR hS hc hs
  have hts := C.2.2.2.2.2.2.1
  have hok := C.2.2.2.2.2.2.2.2.2.2.2.1
  have hZ := C.2.2.2.2.2.2.2.2.2.2.2.2.1
  have hb0 := C.2.2.2.2.2.2.2.2.2.2.2.2.2
  have hd1 := C.2.2.2.2.2.2.2.2.2.1
  have hd2 := C.2.2.2.2.2.2.2.2.2.2.1
  obtain ⟨cv, v1, v2, v3, v4⟩ := (hO s hZ).kept hS.2.1
  obtain ⟨h1, h2, h3, h4, h5, h6, h7, h8⟩ := hm
  have cu : va_CU R s args (jk_own M) Cn owner index x y (jk_cc M1) (jk_nL M1) (jk_rt M1) (Cond.code y (jk_cc M1) (jk_nL M1) (jk_rt M1) :: jk_WS) ({ frames := jk_d M1, cells := mc, slots := ms, locals := 64 * jk_d M1 } : Room) mc ms na := by
    refine ⟨⟨rfl, rfl, by show jk_d M1 + 1 ≤ R.frames; omega, by show 8 + (jk_nL M1 + 11) + 64 * jk_d M1 ≤ R.locals; omega, ?_, List.mem_cons_self⟩, hts _ h1, hts _ h2, ?_, ?_, hts _ hw, hts _ hsame, ?_, hts _ hsel, hts _ hinst⟩
    · intro w hw a' U hW
      rcases List.mem_cons.mp hw with rfl | hw
      · exact jk_kw_warm (jk_ws_kw h1) hW (hts _ h1)
      · exact jk_kw_warm (jk_ws_kw hw) hW (hts _ hw)
    · have := h3; rw [hyx] at this; exact this
    · intro sig h
      have h4' := h4
      rw [hyx] at h4'
      rw [show parseMethodDescriptor x.desc = some sig from h] at h4'
      exact (Option.some.inj h4').symm
    · rw [← hyx]; exact va_Decl.of (hts _ hinst) (hts _ h1)
  refine jk_behind (M := M) (mc := mc) (ms := ms) (rc' := rc - mc) (rs' := rs - ms) (rest := rest) (Q1 := Q1) (X1 := X1) (vx_runU (As := As.map (jk_re G)) (C := Cn) (owner := owner) (own := jk_own M) (cc := jk_cc M) (nL := jk_nL M) (Ts := jk_WS) (n := na) ⟨C.1, C.2.1, C.2.2.1, C.2.2.2.2.2.1, hts⟩ hK cu ⟨jk_blind, ⟨cv, v1, v2, v3⟩, fun U hU hW => ⟨rfl, hok, jk_Zat hok hZ hb0 hS hU hW, by rw [hU]; exact Nat.le_trans hb0 hS.1, by rw [hU]; exact jk_R_moved hW.alike hR⟩⟩ rfl (by rw [List.length_map]; exact hna) (jk_fsz hl) (by simp [F0, jk_re]) ?_ hd ⟨by omega, by omega⟩) C hl hS (by omega) (by omega) htb kk kx
  exact lv_room (Nat.le_trans (jk_catsum rest) (by omega))
end JX6
